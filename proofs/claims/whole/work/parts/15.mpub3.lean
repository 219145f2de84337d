abbrev rX6_sheet : Room := { frames := 2, cells := 0, slots := 0, locals := 45 }
set_option maxHeartbeats 4000000 in
set_option maxRecDepth 100000 in
theorem M_sheet (l : Launch) (D : va_G) (cA : Nat → ClassId) (B0 : Nat) (C : zL) (am : Nat → Nat) (S U : zS) (hI : SI S) (hC : MC S U) (x1 x2 x3 : Int) (hx1 : zr x1) (hx2 : zr x2) (hx3 : zr x3) : zM l yX6_sheet wsX6_sheet rX6_sheet [.ref (am 0), .int (i32 x1), .int (i32 x2), .int (i32 x3)] D cA B0 (zW D B0 (zj C (layM cA am S U))) (fun v H => v = some (.int (i32 (fSheet S x1 x2 x3).1)) ∧ ∃ U : zS, MC (fSheet S x1 x2 x3).2 U ∧ zW D B0 (zj C (layM cA am (fSheet S x1 x2 x3).2 U)) H) := by
  refine z_met (cc := cX6_sheet) (maxL := 5) (ret := (some .int)) (by decide) rfl (Nat.le_of_ble_eq_true rfl) ?_
  intro p e s m args below meth c ls Q hQ E hP hB hS hl
  have hl : lv_has ls 5 [(0, .ref (am 0)), (1, .int (i32 x1)), (2, .int (i32 x2)), (3, .int (i32 x3))] := hl
  have iX6 : ∀ w ∈ u_ws RX6 TX6 28, w ∈ wsX6_sheet := by decide +kernel
  have X : zX D B0 (zj C (layM cA am S U)) s.heap s.heap [] := ⟨hP, hS⟩
  have hI0 := hI.1
  unfold SI0 at hI0
  obtain ⟨b1, b2, b3, b4, b5, b8, b17, b19, b7⟩ := hI0
  unfold zr at hx1 hx2 hx3
  refine lv_aload_n E.1 E.2.1 dX6_sheet_0 rfl (lv_at hl 0 rfl) ?_
  refine z_iconst E dX6_sheet_1 ?_
  refine z_put E X (lM_0 C cA am S U) rfl iX6 tyX6 tyX6_ok nmX6 0 (by decide) (by decide +kernel) rfl rfl rfl (Nat.le_of_ble_eq_true rfl) dX6_sheet_2 (fun H locs X => ?_)
  have X := mp_0 X
  have hC : MC S (zs U 0 0 0) := MC_own hC
  generalize zs U 0 0 0 = U at X hC
  refine lv_iload_n E.1 E.2.1 dX6_sheet_5 rfl (lv_at hl 1 rfl) ?_
  refine z_callJ (As := [.int (i32 x1)]) (rest := []) (n := 1) E X (c_isSheet l D cA B0 _ x1 ⟨by omega, by omega⟩) gX6_sheet_X6_isSheet rfl (by decide +kernel) ⟨by decide, by decide⟩ rfl hl.1 rfl (Nat.le_of_ble_eq_true rfl) dX6_sheet_6 ⟨by decide, by decide⟩ rfl 0 0 ⟨rfl, rfl⟩ (fun v H locs hv hS_1 => ?_)
  obtain ⟨hH, z_2, rfl, ez_2⟩ := hv
  subst hH
  replace X := X.same hS_1
  refine z_fne E 19 ⟨by omega, by omega⟩ dX6_sheet_9 (by decide) (fun h9_3 => ?_) (fun h9_3 => ?_)
  · refine lv_iload_n E.1 E.2.1 dX6_sheet_19 rfl (lv_at hl 2 rfl) ?_
    refine z_i2l E ⟨by omega, by omega⟩ dX6_sheet_20 ?_
    refine z_lconst (z := 0) E dX6_sheet_21 (by decide +kernel) ?_
    refine z_ldc2 (v := 2) (z := 2) E (by decide +kernel) (by decide +kernel) dX6_sheet_22 ?_
    refine z_callJ (As := [.long (i64 x2), .long (i64 0), .long (i64 2)]) (rest := []) (n := 3) E X (c_in l D cA B0 _ x2 0 2 ⟨by omega, by omega⟩ ⟨by omega, by omega⟩ ⟨by omega, by omega⟩) gX6_sheet_X6_in rfl (by decide +kernel) ⟨by decide, by decide⟩ rfl hl.1 rfl (Nat.le_of_ble_eq_true rfl) dX6_sheet_25 ⟨by decide, by decide⟩ rfl 0 0 ⟨rfl, rfl⟩ (fun v H locs hv hS_4 => ?_)
    obtain ⟨hH, z_5, rfl, ez_5⟩ := hv
    subst hH
    replace X := X.same hS_4
    refine z_feq E 37 ⟨by omega, by omega⟩ dX6_sheet_28 (by decide) (fun h28_6 => ?_) (fun h28_6 => ?_)
    · refine z_bipush E dX6_sheet_37 (by decide +kernel) ?_
      have ef : fSheet S x1 x2 x3 = (-2, S) := by
        unfold fSheet fFind
        try simp only [Int.toNat_natCast]
        repeat' split
        all_goals first | rfl | (exfalso; omega)
      exact z_ret E X hQ (⟨(congrArg (fun w => some (Value.int (i32 w.1))) ef).symm, U, by rw [ef]; exact hC, by rw [ef]; exact X.1⟩) dX6_sheet_39
    · refine lv_iload_n E.1 E.2.1 dX6_sheet_31 rfl (lv_at hl 3 rfl) ?_
      refine z_bipush E dX6_sheet_32 (by decide +kernel) ?_
      refine z_cle E 40 ⟨by omega, by omega⟩ ⟨by omega, by omega⟩ dX6_sheet_34 (by decide) (fun h34_7 => ?_) (fun h34_7 => ?_)
      · refine lv_iload_n E.1 E.2.1 dX6_sheet_40 rfl (lv_at hl 3 rfl) ?_
        refine z_fge E 51 ⟨by omega, by omega⟩ dX6_sheet_41 (by decide) (fun h41_8 => ?_) (fun h41_8 => ?_)
        · obtain ⟨q, rfl⟩ : ∃ q : Nat, x1 = (q : Int) := ⟨x1.toNat, by omega⟩
          obtain ⟨nn, rfl⟩ : ∃ nn : Nat, x3 = (nn : Int) := ⟨x3.toNat, by omega⟩
          refine lv_aload_n E.1 E.2.1 dX6_sheet_51 rfl (lv_at hl 0 rfl) ?_
          refine z_get E X (lM_0 C cA am S U) rfl iX6 23 (by decide) (by decide +kernel) (v := .ref (am 23)) rfl dX6_sheet_52 ?_
          refine lv_iload_n E.1 E.2.1 dX6_sheet_55 rfl (lv_at hl 1 rfl) ?_
          refine lv_iload_n E.1 E.2.1 dX6_sheet_56 rfl (lv_at hl 3 rfl) ?_
          refine z_iast E X (lM_23 C cA am S U) q (by omega) (by omega) (by decide) dX6_sheet_57 (fun H locs X => ?_)
          have X := ma_23 X
          refine lv_aload_n E.1 E.2.1 dX6_sheet_58 rfl (lv_at hl 0 rfl) ?_
          refine z_get E X (lM_0 C cA am (zs S 23 q (nn : Int)) U) rfl iX6 24 (by decide) (by decide +kernel) (v := .ref (am 24)) rfl dX6_sheet_59 ?_
          refine lv_iload_n E.1 E.2.1 dX6_sheet_62 rfl (lv_at hl 1 rfl) ?_
          refine lv_iload_n E.1 E.2.1 dX6_sheet_63 rfl (lv_at hl 2 rfl) ?_
          refine z_iast E X (lM_24 C cA am (zs S 23 q (nn : Int)) U) q (by omega) (by omega) (by decide) dX6_sheet_64 (fun H locs X => ?_)
          have X := ma_24 X
          refine z_iconst E dX6_sheet_65 ?_
          refine z_top (0 : Int) (rfl) ?_
          refine lv_istore (lv' := [(4, .int (i32 (0 : Int))), (0, .ref (am 0)), (1, .int (i32 (q : Int))), (2, .int (i32 x2)), (3, .int (i32 (nn : Int)))]) E.1 E.2.1 dX6_sheet_66 hl (by decide) rfl (fun ls hl => ?_)
          have key68 : ∀ (N : Nat) (i : Nat) (H : Heap) (locs : List Loc) (ls : Array Slot), (nn - i) < N → (i ≤ nn) → zX D B0 (zj C (layM cA am (zro (zs (zs S 23 q (nn : Int)) 24 q x2) q i) U)) s.heap H locs → lv_has ls 5 [(0, .ref (am 0)), (1, .int (i32 (q : Int))), (2, .int (i32 x2)), (3, .int (i32 (nn : Int))), (4, .int (i32 (i : Int)))] → W p l e rX6_sheet s m args below meth c H locs 0 0 Q (F0 m 68 ls []) := by
            intro N
            induction N with
            | zero => intros; omega
            | succ N ih68 =>
              intro i H locs ls hN hi X hl
              refine lv_iload E.1 E.2.1 dX6_sheet_68 (lv_at hl 4 rfl) ?_
              refine lv_iload_n E.1 E.2.1 dX6_sheet_70 rfl (lv_at hl 3 rfl) ?_
              refine z_cge E 93 ⟨by omega, by omega⟩ ⟨by omega, by omega⟩ dX6_sheet_71 (by decide) (fun h71_9 => ?_) (fun h71_9 => ?_)
              · refine lv_iload_n E.1 E.2.1 dX6_sheet_93 rfl (lv_at hl 3 rfl) ?_
                have ef : fSheet S (q : Int) x2 (nn : Int) = ((nn : Int), zro (zs (zs S 23 q (nn : Int)) 24 q x2) q i) := by
                  unfold fSheet
                  rw [if_neg (by omega), if_neg (by omega), if_neg (by omega)]
                  simp only [Int.toNat_natCast]
                  rw [show i = nn by omega]
                exact z_ret E X hQ (⟨(congrArg (fun w => some (Value.int (i32 w.1))) ef).symm, U, by rw [ef]; exact MC_k (S := S) (zro_k (by decide) _) (zro_k (by decide) _) (zro_k (by decide) _) (zro_k (by decide) _) (zro_k (by decide) _) hC, by rw [ef]; exact X.1⟩) dX6_sheet_94
              · refine lv_aload_n E.1 E.2.1 dX6_sheet_74 rfl (lv_at hl 0 rfl) ?_
                refine z_get E X (lM_0 C cA am (zro (zs (zs S 23 q (nn : Int)) 24 q x2) q i) U) rfl iX6 25 (by decide) (by decide +kernel) (v := .ref (am 25)) rfl dX6_sheet_75 ?_
                refine z_bipush E dX6_sheet_78 (by decide +kernel) ?_
                refine lv_iload_n E.1 E.2.1 dX6_sheet_80 rfl (lv_at hl 1 rfl) ?_
                refine z_imul E dX6_sheet_81 ?_
                refine lv_iload E.1 E.2.1 dX6_sheet_82 (lv_at hl 4 rfl) ?_
                refine z_iadd E dX6_sheet_84 ?_
                refine z_iconst E dX6_sheet_85 ?_
                refine z_iast E X (lM_25 C cA am (zro (zs (zs S 23 q (nn : Int)) 24 q x2) q i) U) ((64 * q) + i) (by omega) (by omega) (by decide) dX6_sheet_86 (fun H locs X => ?_)
                have X := ma_25 X
                refine z_iinc (lv' := [(4, .int (i32 ((i + 1 : Nat) : Int))), (0, .ref (am 0)), (1, .int (i32 (q : Int))), (2, .int (i32 x2)), (3, .int (i32 (nn : Int)))]) E dX6_sheet_87 hl (k := 4) rfl (by decide) rfl (fun ls hl => ?_)
                refine lv_goto (tgt := 68) E.1 E.2.1 dX6_sheet_90 (by decide) ?_
                exact ih68 (i + 1) _ _ _ (by omega) (by omega) X (lv_sub hl [1, 2, 3, 4, 0] rfl)
          exact key68 ((nn - 0) + 1) 0 _ _ _ (by omega) (by omega) X (lv_sub hl [1, 2, 3, 4, 0] rfl)
        · refine lv_aload_n E.1 E.2.1 dX6_sheet_44 rfl (lv_at hl 0 rfl) ?_
          refine z_bipush E dX6_sheet_45 (by decide +kernel) ?_
          refine z_callV (As := [.int (i32 (-14))]) (rest := []) (n := 1) E X (lM_0 C cA am S U) rfl (m_finds l D cA B0 C am S U (-14)) gX6_sheet_X6_finds rfl (by decide +kernel) ⟨by decide, by decide⟩ rfl hl.1 rfl (Nat.le_of_ble_eq_true rfl) dX6_sheet_47 ⟨by decide, by decide⟩ X.1 0 0 ⟨rfl, rfl⟩ (fun v H locs hv hS_10 => ?_)
          obtain ⟨rfl, hw⟩ := hv
          replace X : zX D B0 (zj C (layM cA am (zs S 27 0 (S 27 0 + 1)) U)) s.heap H locs := ⟨hw, hS_10⟩
          have ef : fSheet S x1 x2 x3 = (-14, zs S 27 0 (S 27 0 + 1)) := by
            unfold fSheet fFind
            try simp only [Int.toNat_natCast]
            repeat' split
            all_goals first | rfl | (exfalso; omega)
          exact z_ret E X hQ (⟨(congrArg (fun w => some (Value.int (i32 w.1))) ef).symm, U, by rw [ef]; exact MC_k (S := S) rfl rfl rfl rfl rfl hC, by rw [ef]; exact X.1⟩) dX6_sheet_50
      · refine z_bipush E dX6_sheet_37 (by decide +kernel) ?_
        have ef : fSheet S x1 x2 x3 = (-2, S) := by
          unfold fSheet fFind
          try simp only [Int.toNat_natCast]
          repeat' split
          all_goals first | rfl | (exfalso; omega)
        exact z_ret E X hQ (⟨(congrArg (fun w => some (Value.int (i32 w.1))) ef).symm, U, by rw [ef]; exact hC, by rw [ef]; exact X.1⟩) dX6_sheet_39
  · refine lv_aload_n E.1 E.2.1 dX6_sheet_12 rfl (lv_at hl 0 rfl) ?_
    refine z_bipush E dX6_sheet_13 (by decide +kernel) ?_
    refine z_callV (As := [.int (i32 (-12))]) (rest := []) (n := 1) E X (lM_0 C cA am S U) rfl (m_finds l D cA B0 C am S U (-12)) gX6_sheet_X6_finds rfl (by decide +kernel) ⟨by decide, by decide⟩ rfl hl.1 rfl (Nat.le_of_ble_eq_true rfl) dX6_sheet_15 ⟨by decide, by decide⟩ X.1 0 0 ⟨rfl, rfl⟩ (fun v H locs hv hS_11 => ?_)
    obtain ⟨rfl, hw⟩ := hv
    replace X : zX D B0 (zj C (layM cA am (zs S 27 0 (S 27 0 + 1)) U)) s.heap H locs := ⟨hw, hS_11⟩
    have ef : fSheet S x1 x2 x3 = (-12, zs S 27 0 (S 27 0 + 1)) := by
      unfold fSheet fFind
      try simp only [Int.toNat_natCast]
      repeat' split
      all_goals first | rfl | (exfalso; omega)
    exact z_ret E X hQ (⟨(congrArg (fun w => some (Value.int (i32 w.1))) ef).symm, U, by rw [ef]; exact MC_k (S := S) rfl rfl rfl rfl rfl hC, by rw [ef]; exact X.1⟩) dX6_sheet_18

abbrev rX6_tear : Room := { frames := 2, cells := 0, slots := 0, locals := 45 }
set_option maxHeartbeats 4000000 in
set_option maxRecDepth 100000 in
theorem M_tear (l : Launch) (D : va_G) (cA : Nat → ClassId) (B0 : Nat) (C : zL) (am : Nat → Nat) (S U : zS) (hI : SI S) (hC : MC S U) (x1 : Int) (hx1 : zr x1) : zM l yX6_tear wsX6_tear rX6_tear [.ref (am 0), .int (i32 x1)] D cA B0 (zW D B0 (zj C (layM cA am S U))) (fun v H => v = some (.int (i32 (fTear S x1).1)) ∧ ∃ U : zS, MC (fTear S x1).2 U ∧ zW D B0 (zj C (layM cA am (fTear S x1).2 U)) H) := by
  refine z_met (cc := cX6_tear) (maxL := 3) (ret := (some .int)) (by decide) rfl (Nat.le_of_ble_eq_true rfl) ?_
  intro p e s m args below meth c ls Q hQ E hP hB hS hl
  have hl : lv_has ls 3 [(0, .ref (am 0)), (1, .int (i32 x1))] := hl
  have iX6 : ∀ w ∈ u_ws RX6 TX6 28, w ∈ wsX6_tear := by decide +kernel
  have X : zX D B0 (zj C (layM cA am S U)) s.heap s.heap [] := ⟨hP, hS⟩
  have hI0 := hI.1
  unfold SI0 at hI0
  obtain ⟨b1, b2, b3, b4, b5, b8, b17, b19, b7⟩ := hI0
  unfold zr at hx1
  refine lv_aload_n E.1 E.2.1 dX6_tear_0 rfl (lv_at hl 0 rfl) ?_
  refine z_iconst E dX6_tear_1 ?_
  refine z_put E X (lM_0 C cA am S U) rfl iX6 tyX6 tyX6_ok nmX6 0 (by decide) (by decide +kernel) rfl rfl rfl (Nat.le_of_ble_eq_true rfl) dX6_tear_2 (fun H locs X => ?_)
  have X := mp_0 X
  have hC : MC S (zs U 0 0 0) := MC_own hC
  generalize zs U 0 0 0 = U at X hC
  refine lv_iload_n E.1 E.2.1 dX6_tear_5 rfl (lv_at hl 1 rfl) ?_
  refine z_callJ (As := [.int (i32 x1)]) (rest := []) (n := 1) E X (c_isSheet l D cA B0 _ x1 ⟨by omega, by omega⟩) gX6_tear_X6_isSheet rfl (by decide +kernel) ⟨by decide, by decide⟩ rfl hl.1 rfl (Nat.le_of_ble_eq_true rfl) dX6_tear_6 ⟨by decide, by decide⟩ rfl 0 0 ⟨rfl, rfl⟩ (fun v H locs hv hS_1 => ?_)
  obtain ⟨hH, z_2, rfl, ez_2⟩ := hv
  subst hH
  replace X := X.same hS_1
  refine z_fne E 19 ⟨by omega, by omega⟩ dX6_tear_9 (by decide) (fun h9_3 => ?_) (fun h9_3 => ?_)
  · obtain ⟨q, rfl⟩ : ∃ q : Nat, x1 = (q : Int) := ⟨x1.toNat, by omega⟩
    have h4 := hI.2.2.2.2.1.1 q (by omega)
    refine lv_aload_n E.1 E.2.1 dX6_tear_19 rfl (lv_at hl 0 rfl) ?_
    refine z_get E X (lM_0 C cA am S U) rfl iX6 23 (by decide) (by decide +kernel) (v := .ref (am 23)) rfl dX6_tear_20 ?_
    refine lv_iload_n E.1 E.2.1 dX6_tear_23 rfl (lv_at hl 1 rfl) ?_
    refine z_iald E X (lM_23 C cA am S U) q (by omega) (by omega) (by decide) dX6_tear_24 ?_
    refine z_fge E 32 ⟨by omega, by omega⟩ dX6_tear_25 (by decide) (fun h25_4 => ?_) (fun h25_4 => ?_)
    · refine z_iconst E dX6_tear_32 ?_
      refine lv_istore_n (lv' := [(2, .int (i32 0)), (0, .ref (am 0)), (1, .int (i32 (q : Int)))]) E.1 E.2.1 dX6_tear_33 rfl hl (by decide) rfl (fun ls hl => ?_)
      refine lv_aload_n E.1 E.2.1 dX6_tear_34 rfl (lv_at hl 1 rfl) ?_
      refine z_get E X (lM_0 C cA am S U) rfl iX6 23 (by decide) (by decide +kernel) (v := .ref (am 23)) rfl dX6_tear_35 ?_
      refine lv_iload_n E.1 E.2.1 dX6_tear_38 rfl (lv_at hl 2 rfl) ?_
      refine z_iconst E dX6_tear_39 ?_
      refine z_iast E X (lM_23 C cA am S U) q (by omega) (by omega) (by decide) dX6_tear_40 (fun H locs X => ?_)
      have X := ma_23 X
      refine lv_iload_n E.1 E.2.1 dX6_tear_41 rfl (lv_at hl 0 rfl) ?_
      have ef : fTear S (q : Int) = (0, zs S 23 q (-1)) := by
        unfold fTear fFind
        try simp only [Int.toNat_natCast]
        repeat' split
        all_goals first | rfl | (exfalso; omega)
      exact z_ret E X hQ (⟨(congrArg (fun w => some (Value.int (i32 w.1))) ef).symm, U, by rw [ef]; exact MC_cong (S := S) rfl rfl rfl (Int.le_refl _) (fun _ _ => rfl) hC, by rw [ef]; exact X.1⟩) dX6_tear_42
    · refine z_iconst E dX6_tear_28 ?_
      refine lv_goto (tgt := 33) E.1 E.2.1 dX6_tear_29 (by decide) ?_
      refine lv_istore_n (lv' := [(2, .int (i32 1)), (0, .ref (am 0)), (1, .int (i32 (q : Int)))]) E.1 E.2.1 dX6_tear_33 rfl hl (by decide) rfl (fun ls hl => ?_)
      refine lv_aload_n E.1 E.2.1 dX6_tear_34 rfl (lv_at hl 1 rfl) ?_
      refine z_get E X (lM_0 C cA am S U) rfl iX6 23 (by decide) (by decide +kernel) (v := .ref (am 23)) rfl dX6_tear_35 ?_
      refine lv_iload_n E.1 E.2.1 dX6_tear_38 rfl (lv_at hl 2 rfl) ?_
      refine z_iconst E dX6_tear_39 ?_
      refine z_iast E X (lM_23 C cA am S U) q (by omega) (by omega) (by decide) dX6_tear_40 (fun H locs X => ?_)
      have X := ma_23 X
      refine lv_iload_n E.1 E.2.1 dX6_tear_41 rfl (lv_at hl 0 rfl) ?_
      have ef : fTear S (q : Int) = (1, zs S 23 q (-1)) := by
        unfold fTear fFind
        try simp only [Int.toNat_natCast]
        repeat' split
        all_goals first | rfl | (exfalso; omega)
      exact z_ret E X hQ (⟨(congrArg (fun w => some (Value.int (i32 w.1))) ef).symm, U, by rw [ef]; exact MC_cong (S := S) rfl rfl rfl (Int.le_refl _) (fun _ _ => rfl) hC, by rw [ef]; exact X.1⟩) dX6_tear_42
  · refine lv_aload_n E.1 E.2.1 dX6_tear_12 rfl (lv_at hl 0 rfl) ?_
    refine z_bipush E dX6_tear_13 (by decide +kernel) ?_
    refine z_callV (As := [.int (i32 (-12))]) (rest := []) (n := 1) E X (lM_0 C cA am S U) rfl (m_finds l D cA B0 C am S U (-12)) gX6_tear_X6_finds rfl (by decide +kernel) ⟨by decide, by decide⟩ rfl hl.1 rfl (Nat.le_of_ble_eq_true rfl) dX6_tear_15 ⟨by decide, by decide⟩ X.1 0 0 ⟨rfl, rfl⟩ (fun v H locs hv hS_5 => ?_)
    obtain ⟨rfl, hw⟩ := hv
    replace X : zX D B0 (zj C (layM cA am (zs S 27 0 (S 27 0 + 1)) U)) s.heap H locs := ⟨hw, hS_5⟩
    have ef : fTear S x1 = (-12, zs S 27 0 (S 27 0 + 1)) := by
      unfold fTear fFind
      try simp only [Int.toNat_natCast]
      repeat' split
      all_goals first | rfl | (exfalso; omega)
    exact z_ret E X hQ (⟨(congrArg (fun w => some (Value.int (i32 w.1))) ef).symm, U, by rw [ef]; exact MC_cong (S := S) rfl rfl rfl (Int.le_refl _) (fun _ _ => rfl) hC, by rw [ef]; exact X.1⟩) dX6_tear_18

abbrev rX6_record : Room := { frames := 6, cells := 0, slots := 0, locals := 151 }
set_option maxHeartbeats 4000000 in
set_option maxRecDepth 100000 in
theorem M_record (l : Launch) (D : va_G) (cA : Nat → ClassId) (B0 : Nat) (C : zL) (am : Nat → Nat) (S U : zS) (hI : SI S) (hC : MC S U) (x1 x2 x3 x4 : Int) (hx1 : zr x1) (hx2 : zr x2) (hx3 : zr x3) (hx4 : zr x4) : zM l yX6_record wsX6_record rX6_record [.ref (am 0), .int (i32 x1), .int (i32 x2), .int (i32 x3), .int (i32 x4)] D cA B0 (zW D B0 (zj C (layM cA am S U))) (fun v H => v = some (.int (i32 (fRecord S x1 x2 x3 x4).1)) ∧ ∃ U : zS, MC (fRecord S x1 x2 x3 x4).2 U ∧ zW D B0 (zj C (layM cA am (fRecord S x1 x2 x3 x4).2 U)) H) := by
  refine z_met (cc := cX6_record) (maxL := 6) (ret := (some .int)) (by decide) rfl (Nat.le_of_ble_eq_true rfl) ?_
  intro p e s m args below meth c ls Q hQ E hP hB hS hl
  have hl : lv_has ls 6 [(0, .ref (am 0)), (1, .int (i32 x1)), (2, .int (i32 x2)), (3, .int (i32 x3)), (4, .int (i32 x4))] := hl
  have iX6 : ∀ w ∈ u_ws RX6 TX6 28, w ∈ wsX6_record := by decide +kernel
  have X : zX D B0 (zj C (layM cA am S U)) s.heap s.heap [] := ⟨hP, hS⟩
  have hI0 := hI.1
  unfold SI0 at hI0
  obtain ⟨b1, b2, b3, b4, b5, b8, b17, b19, b7⟩ := hI0
  unfold zr at hx1 hx2 hx3 hx4
  refine lv_aload_n E.1 E.2.1 dX6_record_0 rfl (lv_at hl 0 rfl) ?_
  refine z_iconst E dX6_record_1 ?_
  refine z_put E X (lM_0 C cA am S U) rfl iX6 tyX6 tyX6_ok nmX6 0 (by decide) (by decide +kernel) rfl rfl rfl (Nat.le_of_ble_eq_true rfl) dX6_record_2 (fun H locs X => ?_)
  have X := mp_0 X
  have hC : MC S (zs U 0 0 0) := MC_own hC
  generalize zs U 0 0 0 = U at X hC
  refine lv_iload_n E.1 E.2.1 dX6_record_5 rfl (lv_at hl 1 rfl) ?_
  refine z_callJ (As := [.int (i32 x1)]) (rest := []) (n := 1) E X (c_isSheet l D cA B0 _ x1 ⟨by omega, by omega⟩) gX6_record_X6_isSheet rfl (by decide +kernel) ⟨by decide, by decide⟩ rfl hl.1 rfl (Nat.le_of_ble_eq_true rfl) dX6_record_6 ⟨by decide, by decide⟩ rfl 0 0 ⟨rfl, rfl⟩ (fun v H locs hv hS_1 => ?_)
  obtain ⟨hH, z_2, rfl, ez_2⟩ := hv
  subst hH
  replace X := X.same hS_1
  refine z_fne E 19 ⟨by omega, by omega⟩ dX6_record_9 (by decide) (fun h9_3 => ?_) (fun h9_3 => ?_)
  · refine lv_aload_n E.1 E.2.1 dX6_record_19 rfl (lv_at hl 0 rfl) ?_
    refine lv_iload_n E.1 E.2.1 dX6_record_20 rfl (lv_at hl 2 rfl) ?_
    refine z_callV (As := [.int (i32 x2)]) (rest := []) (n := 1) E X (lM_0 C cA am S U) rfl (m_noElement l D cA B0 C am S U hI.1 x2 ⟨by omega, by omega⟩) gX6_record_X6_noElement rfl (by decide +kernel) ⟨by decide, by decide⟩ rfl hl.1 rfl (Nat.le_of_ble_eq_true rfl) dX6_record_21 ⟨by decide, by decide⟩ X.1 0 0 ⟨rfl, rfl⟩ (fun v H locs hv hS_4 => ?_)
    obtain ⟨⟨z_5, rfl, ez_5⟩, hw⟩ := hv
    replace X : zX D B0 (zj C (layM cA am S U)) s.heap H locs := ⟨hw, hS_4⟩
    refine z_fne E 35 ⟨by omega, by omega⟩ dX6_record_24 (by decide) (fun h24_6 => ?_) (fun h24_6 => ?_)
    · refine z_iconst E dX6_record_35 ?_
      have ef : fRecord S x1 x2 x3 x4 = (-1, S) := by
        unfold fRecord fFind
        try simp only [Int.toNat_natCast]
        repeat' split
        all_goals first | rfl | (exfalso; omega)
      exact z_ret E X hQ (⟨(congrArg (fun w => some (Value.int (i32 w.1))) ef).symm, U, by rw [ef]; exact hC, by rw [ef]; exact X.1⟩) dX6_record_36
    · refine lv_aload_n E.1 E.2.1 dX6_record_27 rfl (lv_at hl 0 rfl) ?_
      refine lv_iload_n E.1 E.2.1 dX6_record_28 rfl (lv_at hl 3 rfl) ?_
      refine z_callV (As := [.int (i32 x3)]) (rest := []) (n := 1) E X (lM_0 C cA am S U) rfl (m_noElement l D cA B0 C am S U hI.1 x3 ⟨by omega, by omega⟩) gX6_record_X6_noElement rfl (by decide +kernel) ⟨by decide, by decide⟩ rfl hl.1 rfl (Nat.le_of_ble_eq_true rfl) dX6_record_29 ⟨by decide, by decide⟩ X.1 0 0 ⟨rfl, rfl⟩ (fun v H locs hv hS_7 => ?_)
      obtain ⟨⟨z_8, rfl, ez_8⟩, hw⟩ := hv
      replace X : zX D B0 (zj C (layM cA am S U)) s.heap H locs := ⟨hw, hS_7⟩
      refine z_feq E 37 ⟨by omega, by omega⟩ dX6_record_32 (by decide) (fun h32_9 => ?_) (fun h32_9 => ?_)
      · obtain ⟨q, rfl⟩ : ∃ q : Nat, x1 = (q : Int) := ⟨x1.toNat, by omega⟩
        obtain ⟨ea, rfl⟩ : ∃ ea : Nat, x2 = (ea : Int) := ⟨x2.toNat, by omega⟩
        obtain ⟨eb, rfl⟩ : ∃ eb : Nat, x3 = (eb : Int) := ⟨x3.toNat, by omega⟩
        have h4 := hI.2.2.2.2.1.1 q (by omega)
        refine lv_aload_n E.1 E.2.1 dX6_record_37 rfl (lv_at hl 0 rfl) ?_
        refine z_get E X (lM_0 C cA am S U) rfl iX6 23 (by decide) (by decide +kernel) (v := .ref (am 23)) rfl dX6_record_38 ?_
        refine lv_iload_n E.1 E.2.1 dX6_record_41 rfl (lv_at hl 1 rfl) ?_
        refine z_iald E X (lM_23 C cA am S U) q (by omega) (by omega) (by decide) dX6_record_42 ?_
        refine z_fge E 53 ⟨by omega, by omega⟩ dX6_record_43 (by decide) (fun h43_10 => ?_) (fun h43_10 => ?_)
        · refine z_iconst E dX6_record_53 ?_
          refine z_top (0 : Int) (rfl) ?_
          refine lv_istore (lv' := [(5, .int (i32 (0 : Int))), (0, .ref (am 0)), (1, .int (i32 (q : Int))), (2, .int (i32 (ea : Int))), (3, .int (i32 (eb : Int))), (4, .int (i32 x4))]) E.1 E.2.1 dX6_record_54 hl (by decide) rfl (fun ls hl => ?_)
          have key56 : ∀ (N : Nat) (i : Nat) (U : zS) (H : Heap) (locs : List Loc) (ls : Array Slot), ((S 23 q).toNat - i) < N → ((i : Int) ≤ S 23 q) → (MC (rcd S q ea eb x4 i) U) → zX D B0 (zj C (layM cA am (rcd S q ea eb x4 i) U)) s.heap H locs → lv_has ls 6 [(0, .ref (am 0)), (1, .int (i32 (q : Int))), (2, .int (i32 (ea : Int))), (3, .int (i32 (eb : Int))), (4, .int (i32 x4)), (5, .int (i32 (i : Int)))] → W p l e rX6_record s m args below meth c H locs 0 0 Q (F0 m 56 ls []) := by
            intro N
            induction N with
            | zero => intros; omega
            | succ N ih56 =>
              intro i U H locs ls hN hi hC X hl
              refine lv_iload E.1 E.2.1 dX6_record_56 (lv_at hl 5 rfl) ?_
              refine lv_aload_n E.1 E.2.1 dX6_record_58 rfl (lv_at hl 0 rfl) ?_
              refine z_get E X (lM_0 C cA am (rcd S q ea eb x4 i) U) rfl iX6 23 (by decide) (by decide +kernel) (v := .ref (am 23)) rfl dX6_record_59 ?_
              refine lv_iload_n E.1 E.2.1 dX6_record_62 rfl (lv_at hl 1 rfl) ?_
              refine z_iald E X (lM_23 C cA am (rcd S q ea eb x4 i) U) q (by omega) (by omega) (by decide) dX6_record_63 ?_
              refine z_top (S 23 q) (by rw [rcd_k (by decide)]) ?_
              refine z_cge E 108 ⟨by omega, by omega⟩ ⟨by omega, by omega⟩ dX6_record_64 (by decide) (fun h64_11 => ?_) (fun h64_11 => ?_)
              · refine lv_aload_n E.1 E.2.1 dX6_record_108 rfl (lv_at hl 0 rfl) ?_
                refine z_get E X (lM_0 C cA am (rcd S q ea eb x4 i) U) rfl iX6 23 (by decide) (by decide +kernel) (v := .ref (am 23)) rfl dX6_record_109 ?_
                refine lv_iload_n E.1 E.2.1 dX6_record_112 rfl (lv_at hl 1 rfl) ?_
                refine z_iald E X (lM_23 C cA am (rcd S q ea eb x4 i) U) q (by omega) (by omega) (by decide) dX6_record_113 ?_
                refine z_top (S 23 q) (by rw [rcd_k (by decide)]) ?_
                have ef : fRecord S (q : Int) (ea : Int) (eb : Int) x4 = (S 23 q, rcd S q ea eb x4 i) := by
                  unfold fRecord
                  simp only [Int.toNat_natCast]
                  rw [if_neg (by omega), if_neg (by omega), if_neg (by omega), show (S 23 q).toNat = i by omega]
                exact z_ret E X hQ (⟨(congrArg (fun w => some (Value.int (i32 w.1))) ef).symm, U, by rw [ef]; exact MC_k (S := rcd S q ea eb x4 i) rfl rfl rfl rfl rfl hC, by rw [ef]; exact X.1⟩) dX6_record_114
              · have hI2 : SI (rcd S q ea eb x4 i) := SI_25 hI (fun k hk => rcd_k hk _) (rcd_zr hI.2.2.2.2.1.2 i)
                have d5 : rcd S q ea eb x4 i 5 0 = S 5 0 := by rw [rcd_k (by decide)]
                refine lv_aload_n E.1 E.2.1 dX6_record_67 rfl (lv_at hl 0 rfl) ?_
                refine z_get E X (lM_0 C cA am (rcd S q ea eb x4 i) U) rfl iX6 25 (by decide) (by decide +kernel) (v := .ref (am 25)) rfl dX6_record_68 ?_
                refine z_bipush E dX6_record_71 (by decide +kernel) ?_
                refine lv_iload_n E.1 E.2.1 dX6_record_73 rfl (lv_at hl 1 rfl) ?_
                refine z_imul E dX6_record_74 ?_
                refine lv_iload E.1 E.2.1 dX6_record_75 (lv_at hl 5 rfl) ?_
                refine z_iadd E dX6_record_77 ?_
                refine lv_aload_n E.1 E.2.1 dX6_record_78 rfl (lv_at hl 0 rfl) ?_
                refine z_get E X (lM_0 C cA am (rcd S q ea eb x4 i) U) rfl iX6 24 (by decide) (by decide +kernel) (v := .ref (am 24)) rfl dX6_record_79 ?_
                refine lv_iload_n E.1 E.2.1 dX6_record_82 rfl (lv_at hl 1 rfl) ?_
                refine z_iald E X (lM_24 C cA am (rcd S q ea eb x4 i) U) q (by omega) (by omega) (by decide) dX6_record_83 ?_
                refine z_top (S 24 q) (by rw [rcd_k (by decide)]) ?_
                refine lv_aload_n E.1 E.2.1 dX6_record_84 rfl (lv_at hl 0 rfl) ?_
                refine lv_iload_n E.1 E.2.1 dX6_record_85 rfl (lv_at hl 2 rfl) ?_
                refine lv_iload_n E.1 E.2.1 dX6_record_86 rfl (lv_at hl 3 rfl) ?_
                refine lv_iload E.1 E.2.1 dX6_record_87 (lv_at hl 4 rfl) ?_
                refine z_i2l E ⟨by omega, by omega⟩ dX6_record_89 ?_
                refine lv_iload E.1 E.2.1 dX6_record_90 (lv_at hl 5 rfl) ?_
                refine z_i2l E ⟨by omega, by omega⟩ dX6_record_92 ?_
                refine z_ladd E dX6_record_93 ?_
                refine z_callV (As := [.int (i32 (ea : Int)), .int (i32 (eb : Int)), .long (i64 (x4 + (i : Int)))]) (rest := [.int (i32 (S 24 q)), .int (i32 ((64 * (q : Int)) + (i : Int))), .ref (am 25)]) (n := 3) E X (lM_0 C cA am (rcd S q ea eb x4 i) U) rfl (m_echoAt l D cA B0 C am (rcd S q ea eb x4 i) U hI2 hC ea eb (x4 + (i : Int)) (by omega) (by omega) (by unfold zrl; omega)) gX6_record_X6_echoAt rfl (by decide +kernel) ⟨by decide, by decide⟩ rfl hl.1 rfl (Nat.le_of_ble_eq_true rfl) dX6_record_94 ⟨by decide, by decide⟩ X.1 0 0 ⟨rfl, rfl⟩ (fun v H locs hv hS_12 => ?_)
                obtain ⟨rfl, U_13, hC, hw⟩ := hv
                replace X : zX D B0 (zj C (layM cA am (rcd S q ea eb x4 i) U_13)) s.heap H locs := ⟨hw, hS_12⟩
                have f_14 := EC_rng (a := ea) (b := eb) (tick := (x4 + (i : Int))) hI2
                refine z_top (EC S ea eb (x4 + (i : Int))) (EC_25 (fun k hk => rcd_k hk _) _ _ _) ?_
                have hec := EC_rng (a := ea) (b := eb) (tick := x4 + (i : Int)) hI
                refine z_i2l E ⟨by omega, by omega⟩ dX6_record_97 ?_
                refine z_callJ (As := [.int (i32 (S 24 q)), .long (i64 (EC S ea eb (x4 + (i : Int))))]) (rest := [.int (i32 ((64 * (q : Int)) + (i : Int))), .ref (am 25)]) (n := 2) E X (c_as l D cA B0 _ (S 24 q) (EC S ea eb (x4 + (i : Int))) (by omega) (by omega)) gX6_record_X6_as rfl (by decide +kernel) ⟨by decide, by decide⟩ rfl hl.1 rfl (Nat.le_of_ble_eq_true rfl) dX6_record_98 ⟨by decide, by decide⟩ rfl 0 0 ⟨rfl, rfl⟩ (fun v H locs hv hS_15 => ?_)
                obtain ⟨hH, rfl⟩ := hv
                subst hH
                replace X := X.same hS_15
                refine z_iast E X (lM_25 C cA am (rcd S q ea eb x4 i) U_13) ((64 * q) + i) (by omega) (by omega) (by decide) dX6_record_101 (fun H locs X => ?_)
                have X := ma_25 X
                refine z_iinc (lv' := [(5, .int (i32 ((i + 1 : Nat) : Int))), (0, .ref (am 0)), (1, .int (i32 (q : Int))), (2, .int (i32 (ea : Int))), (3, .int (i32 (eb : Int))), (4, .int (i32 x4))]) E dX6_record_102 hl (k := 5) rfl (by decide) rfl (fun ls hl => ?_)
                refine lv_goto (tgt := 56) E.1 E.2.1 dX6_record_105 (by decide) ?_
                exact ih56 (i + 1) U_13 _ _ _ (by omega) (by omega) (MC_k (S := rcd S q ea eb x4 i) rfl rfl rfl rfl rfl hC) X (lv_sub hl [1, 2, 3, 4, 5, 0] rfl)
          exact key56 (((S 23 q).toNat - 0) + 1) 0 U _ _ _ (by omega) (by omega) hC X (lv_sub hl [1, 2, 3, 4, 5, 0] rfl)
        · refine lv_aload_n E.1 E.2.1 dX6_record_46 rfl (lv_at hl 0 rfl) ?_
          refine z_bipush E dX6_record_47 (by decide +kernel) ?_
          refine z_callV (As := [.int (i32 (-11))]) (rest := []) (n := 1) E X (lM_0 C cA am S U) rfl (m_finds l D cA B0 C am S U (-11)) gX6_record_X6_finds rfl (by decide +kernel) ⟨by decide, by decide⟩ rfl hl.1 rfl (Nat.le_of_ble_eq_true rfl) dX6_record_49 ⟨by decide, by decide⟩ X.1 0 0 ⟨rfl, rfl⟩ (fun v H locs hv hS_16 => ?_)
          obtain ⟨rfl, hw⟩ := hv
          replace X : zX D B0 (zj C (layM cA am (zs S 27 0 (S 27 0 + 1)) U)) s.heap H locs := ⟨hw, hS_16⟩
          have ef : fRecord S (q : Int) (ea : Int) (eb : Int) x4 = (-11, zs S 27 0 (S 27 0 + 1)) := by
            unfold fRecord fFind
            try simp only [Int.toNat_natCast]
            repeat' split
            all_goals first | rfl | (exfalso; omega)
          exact z_ret E X hQ (⟨(congrArg (fun w => some (Value.int (i32 w.1))) ef).symm, U, by rw [ef]; exact MC_k (S := S) rfl rfl rfl rfl rfl hC, by rw [ef]; exact X.1⟩) dX6_record_52
      · refine z_iconst E dX6_record_35 ?_
        have ef : fRecord S x1 x2 x3 x4 = (-1, S) := by
          unfold fRecord fFind
          try simp only [Int.toNat_natCast]
          repeat' split
          all_goals first | rfl | (exfalso; omega)
        exact z_ret E X hQ (⟨(congrArg (fun w => some (Value.int (i32 w.1))) ef).symm, U, by rw [ef]; exact hC, by rw [ef]; exact X.1⟩) dX6_record_36
  · refine lv_aload_n E.1 E.2.1 dX6_record_12 rfl (lv_at hl 0 rfl) ?_
    refine z_bipush E dX6_record_13 (by decide +kernel) ?_
    refine z_callV (As := [.int (i32 (-12))]) (rest := []) (n := 1) E X (lM_0 C cA am S U) rfl (m_finds l D cA B0 C am S U (-12)) gX6_record_X6_finds rfl (by decide +kernel) ⟨by decide, by decide⟩ rfl hl.1 rfl (Nat.le_of_ble_eq_true rfl) dX6_record_15 ⟨by decide, by decide⟩ X.1 0 0 ⟨rfl, rfl⟩ (fun v H locs hv hS_17 => ?_)
    obtain ⟨rfl, hw⟩ := hv
    replace X : zX D B0 (zj C (layM cA am (zs S 27 0 (S 27 0 + 1)) U)) s.heap H locs := ⟨hw, hS_17⟩
    have ef : fRecord S x1 x2 x3 x4 = (-12, zs S 27 0 (S 27 0 + 1)) := by
      unfold fRecord fFind
      try simp only [Int.toNat_natCast]
      repeat' split
      all_goals first | rfl | (exfalso; omega)
    exact z_ret E X hQ (⟨(congrArg (fun w => some (Value.int (i32 w.1))) ef).symm, U, by rw [ef]; exact MC_k (S := S) rfl rfl rfl rfl rfl hC, by rw [ef]; exact X.1⟩) dX6_record_18

abbrev rX6_add : Room := { frames := 2, cells := 0, slots := 0, locals := 45 }
set_option maxHeartbeats 4000000 in
set_option maxRecDepth 100000 in
theorem M_add (l : Launch) (D : va_G) (cA : Nat → ClassId) (B0 : Nat) (C : zL) (am : Nat → Nat) (S U : zS) (hI : SI S) (hC : MC S U) (x1 x2 x3 : Int) (hx1 : zr x1) (hx2 : zr x2) (hx3 : zr x3) : zM l yX6_add wsX6_add rX6_add [.ref (am 0), .int (i32 x1), .int (i32 x2), .int (i32 x3)] D cA B0 (zW D B0 (zj C (layM cA am S U))) (fun v H => v = some (.int (i32 (fAdd S x1 x2 x3).1)) ∧ ∃ U : zS, MC (fAdd S x1 x2 x3).2 U ∧ zW D B0 (zj C (layM cA am (fAdd S x1 x2 x3).2 U)) H) := by
  refine z_met (cc := cX6_add) (maxL := 9) (ret := (some .int)) (by decide) rfl (Nat.le_of_ble_eq_true rfl) ?_
  intro p e s m args below meth c ls Q hQ E hP hB hS hl
  have hl : lv_has ls 9 [(0, .ref (am 0)), (1, .int (i32 x1)), (2, .int (i32 x2)), (3, .int (i32 x3))] := hl
  have iX6 : ∀ w ∈ u_ws RX6 TX6 28, w ∈ wsX6_add := by decide +kernel
  have X : zX D B0 (zj C (layM cA am S U)) s.heap s.heap [] := ⟨hP, hS⟩
  have hI0 := hI.1
  unfold SI0 at hI0
  obtain ⟨b1, b2, b3, b4, b5, b8, b17, b19, b7⟩ := hI0
  unfold zr at hx1 hx2 hx3
  refine lv_aload_n E.1 E.2.1 dX6_add_0 rfl (lv_at hl 0 rfl) ?_
  refine z_iconst E dX6_add_1 ?_
  refine z_put E X (lM_0 C cA am S U) rfl iX6 tyX6 tyX6_ok nmX6 0 (by decide) (by decide +kernel) rfl rfl rfl (Nat.le_of_ble_eq_true rfl) dX6_add_2 (fun H locs X => ?_)
  have X := mp_0 X
  have hC : MC S (zs U 0 0 0) := MC_own hC
  generalize zs U 0 0 0 = U at X hC
  refine lv_iload_n E.1 E.2.1 dX6_add_5 rfl (lv_at hl 1 rfl) ?_
  refine z_callJ (As := [.int (i32 x1)]) (rest := []) (n := 1) E X (c_isSheet l D cA B0 _ x1 ⟨by omega, by omega⟩) gX6_add_X6_isSheet rfl (by decide +kernel) ⟨by decide, by decide⟩ rfl hl.1 rfl (Nat.le_of_ble_eq_true rfl) dX6_add_6 ⟨by decide, by decide⟩ rfl 0 0 ⟨rfl, rfl⟩ (fun v H locs hv hS_1 => ?_)
  obtain ⟨hH, z_2, rfl, ez_2⟩ := hv
  subst hH
  replace X := X.same hS_1
  refine z_feq E 19 ⟨by omega, by omega⟩ dX6_add_9 (by decide) (fun h9_3 => ?_) (fun h9_3 => ?_)
  · refine lv_aload_n E.1 E.2.1 dX6_add_19 rfl (lv_at hl 0 rfl) ?_
    refine z_bipush E dX6_add_20 (by decide +kernel) ?_
    refine z_callV (As := [.int (i32 (-12))]) (rest := []) (n := 1) E X (lM_0 C cA am S U) rfl (m_finds l D cA B0 C am S U (-12)) gX6_add_X6_finds rfl (by decide +kernel) ⟨by decide, by decide⟩ rfl hl.1 rfl (Nat.le_of_ble_eq_true rfl) dX6_add_22 ⟨by decide, by decide⟩ X.1 0 0 ⟨rfl, rfl⟩ (fun v H locs hv hS_4 => ?_)
    obtain ⟨rfl, hw⟩ := hv
    replace X : zX D B0 (zj C (layM cA am (zs S 27 0 (S 27 0 + 1)) U)) s.heap H locs := ⟨hw, hS_4⟩
    have ef : fAdd S x1 x2 x3 = (-12, zs S 27 0 (S 27 0 + 1)) := by
      unfold fAdd fFind
      try simp only [Int.toNat_natCast]
      repeat' split
      all_goals first | rfl | (exfalso; omega)
    exact z_ret E X hQ (⟨(congrArg (fun w => some (Value.int (i32 w.1))) ef).symm, U, by rw [ef]; exact MC_k (S := S) rfl rfl rfl rfl rfl hC, by rw [ef]; exact X.1⟩) dX6_add_25
  · refine lv_iload_n E.1 E.2.1 dX6_add_12 rfl (lv_at hl 2 rfl) ?_
    refine z_callJ (As := [.int (i32 x2)]) (rest := []) (n := 1) E X (c_isSheet l D cA B0 _ x2 ⟨by omega, by omega⟩) gX6_add_X6_isSheet rfl (by decide +kernel) ⟨by decide, by decide⟩ rfl hl.1 rfl (Nat.le_of_ble_eq_true rfl) dX6_add_13 ⟨by decide, by decide⟩ rfl 0 0 ⟨rfl, rfl⟩ (fun v H locs hv hS_5 => ?_)
    obtain ⟨hH, z_6, rfl, ez_6⟩ := hv
    subst hH
    replace X := X.same hS_5
    refine z_fne E 26 ⟨by omega, by omega⟩ dX6_add_16 (by decide) (fun h16_7 => ?_) (fun h16_7 => ?_)
    · obtain ⟨q, rfl⟩ : ∃ q : Nat, x1 = (q : Int) := ⟨x1.toNat, by omega⟩
      obtain ⟨r, rfl⟩ : ∃ r : Nat, x2 = (r : Int) := ⟨x2.toNat, by omega⟩
      have h4 := hI.2.2.2.2.1.1 q (by omega)
      have h4r := hI.2.2.2.2.1.1 r (by omega)
      refine lv_aload_n E.1 E.2.1 dX6_add_26 rfl (lv_at hl 0 rfl) ?_
      refine z_get E X (lM_0 C cA am S U) rfl iX6 23 (by decide) (by decide +kernel) (v := .ref (am 23)) rfl dX6_add_27 ?_
      refine lv_iload_n E.1 E.2.1 dX6_add_30 rfl (lv_at hl 1 rfl) ?_
      refine z_iald E X (lM_23 C cA am S U) q (by omega) (by omega) (by decide) dX6_add_31 ?_
      refine z_flt E 44 ⟨by omega, by omega⟩ dX6_add_32 (by decide) (fun h32_8 => ?_) (fun h32_8 => ?_)
      · refine lv_aload_n E.1 E.2.1 dX6_add_44 rfl (lv_at hl 0 rfl) ?_
        refine z_bipush E dX6_add_45 (by decide +kernel) ?_
        refine z_callV (As := [.int (i32 (-11))]) (rest := []) (n := 1) E X (lM_0 C cA am S U) rfl (m_finds l D cA B0 C am S U (-11)) gX6_add_X6_finds rfl (by decide +kernel) ⟨by decide, by decide⟩ rfl hl.1 rfl (Nat.le_of_ble_eq_true rfl) dX6_add_47 ⟨by decide, by decide⟩ X.1 0 0 ⟨rfl, rfl⟩ (fun v H locs hv hS_9 => ?_)
        obtain ⟨rfl, hw⟩ := hv
        replace X : zX D B0 (zj C (layM cA am (zs S 27 0 (S 27 0 + 1)) U)) s.heap H locs := ⟨hw, hS_9⟩
        have ef : fAdd S (q : Int) (r : Int) x3 = (-11, zs S 27 0 (S 27 0 + 1)) := by
          unfold fAdd fFind
          try simp only [Int.toNat_natCast]
          repeat' split
          all_goals first | rfl | (exfalso; omega)
        exact z_ret E X hQ (⟨(congrArg (fun w => some (Value.int (i32 w.1))) ef).symm, U, by rw [ef]; exact MC_k (S := S) rfl rfl rfl rfl rfl hC, by rw [ef]; exact X.1⟩) dX6_add_50
      · refine lv_aload_n E.1 E.2.1 dX6_add_35 rfl (lv_at hl 0 rfl) ?_
        refine z_get E X (lM_0 C cA am S U) rfl iX6 23 (by decide) (by decide +kernel) (v := .ref (am 23)) rfl dX6_add_36 ?_
        refine lv_iload_n E.1 E.2.1 dX6_add_39 rfl (lv_at hl 2 rfl) ?_
        refine z_iald E X (lM_23 C cA am S U) r (by omega) (by omega) (by decide) dX6_add_40 ?_
        refine z_fge E 51 ⟨by omega, by omega⟩ dX6_add_41 (by decide) (fun h41_10 => ?_) (fun h41_10 => ?_)
        · refine z_iconst E dX6_add_51 ?_
          refine z_top (0 : Int) (rfl) ?_
          refine lv_istore (lv' := [(4, .int (i32 (0 : Int))), (0, .ref (am 0)), (1, .int (i32 (q : Int))), (2, .int (i32 (r : Int))), (3, .int (i32 x3))]) E.1 E.2.1 dX6_add_52 hl (by decide) rfl (fun ls hl => ?_)
          have key54 : ∀ (N : Nat) (i : Nat) (U : zS) (H : Heap) (locs : List Loc) (ls : Array Slot), ((S 23 q).toNat - i) < N → ((i : Int) ≤ S 23 q) → (MC S U) → (∀ k : Nat, k < i → U 26 k = S 25 (64 * q + k)) → zX D B0 (zj C (layM cA am S U)) s.heap H locs → lv_has ls 9 [(0, .ref (am 0)), (1, .int (i32 (q : Int))), (2, .int (i32 (r : Int))), (3, .int (i32 x3)), (4, .int (i32 (i : Int)))] → W p l e rX6_add s m args below meth c H locs 0 0 Q (F0 m 54 ls []) := by
            intro N
            induction N with
            | zero => intros; omega
            | succ N ih54 =>
              intro i U H locs ls hN hi hC hsp X hl
              refine lv_iload E.1 E.2.1 dX6_add_54 (lv_at hl 4 rfl) ?_
              refine lv_aload_n E.1 E.2.1 dX6_add_56 rfl (lv_at hl 0 rfl) ?_
              refine z_get E X (lM_0 C cA am S U) rfl iX6 23 (by decide) (by decide +kernel) (v := .ref (am 23)) rfl dX6_add_57 ?_
              refine lv_iload_n E.1 E.2.1 dX6_add_60 rfl (lv_at hl 1 rfl) ?_
              refine z_iald E X (lM_23 C cA am S U) q (by omega) (by omega) (by decide) dX6_add_61 ?_
              refine z_cge E 90 ⟨by omega, by omega⟩ ⟨by omega, by omega⟩ dX6_add_62 (by decide) (fun h62_11 => ?_) (fun h62_11 => ?_)
              · refine z_iconst E dX6_add_90 ?_
                refine z_top (adn S r x3 0) (rfl) ?_
                refine lv_istore (lv' := [(4, .int (i32 (adn S r x3 0))), (0, .ref (am 0)), (1, .int (i32 (q : Int))), (2, .int (i32 (r : Int))), (3, .int (i32 x3))]) E.1 E.2.1 dX6_add_91 hl (by decide) rfl (fun ls hl => ?_)
                refine z_iconst E dX6_add_93 ?_
                refine z_top (0 : Int) (rfl) ?_
                refine lv_istore (lv' := [(5, .int (i32 (0 : Int))), (4, .int (i32 (adn S r x3 0))), (0, .ref (am 0)), (1, .int (i32 (q : Int))), (2, .int (i32 (r : Int))), (3, .int (i32 x3))]) E.1 E.2.1 dX6_add_94 hl (by decide) rfl (fun ls hl => ?_)
                have key96 : ∀ (N : Nat) (k : Nat) (H : Heap) (locs : List Loc) (ls : Array Slot), ((S 23 q).toNat - k) < N → ((k : Int) ≤ S 23 q) → zX D B0 (zj C (layM cA am (ads S q r x3 k) U)) s.heap H locs → lv_has ls 9 [(0, .ref (am 0)), (1, .int (i32 (q : Int))), (2, .int (i32 (r : Int))), (3, .int (i32 x3)), (4, .int (i32 (adn S r x3 k))), (5, .int (i32 (k : Int)))] → W p l e rX6_add s m args below meth c H locs 0 0 Q (F0 m 96 ls []) := by
                  intro N
                  induction N with
                  | zero => intros; omega
                  | succ N ih96 =>
                    intro k H locs ls hN hk X hl
                    refine lv_iload E.1 E.2.1 dX6_add_96 (lv_at hl 5 rfl) ?_
                    refine lv_aload_n E.1 E.2.1 dX6_add_98 rfl (lv_at hl 0 rfl) ?_
                    refine z_get E X (lM_0 C cA am (ads S q r x3 k) U) rfl iX6 23 (by decide) (by decide +kernel) (v := .ref (am 23)) rfl dX6_add_99 ?_
                    refine lv_iload_n E.1 E.2.1 dX6_add_102 rfl (lv_at hl 1 rfl) ?_
                    refine z_iald E X (lM_23 C cA am (ads S q r x3 k) U) q (by omega) (by omega) (by decide) dX6_add_103 ?_
                    refine z_top (S 23 q) (by rw [ads_k (by decide)]) ?_
                    refine z_cge E 185 ⟨by omega, by omega⟩ ⟨by omega, by omega⟩ dX6_add_104 (by decide) (fun h104_12 => ?_) (fun h104_12 => ?_)
                    · refine lv_iload E.1 E.2.1 dX6_add_185 (lv_at hl 4 rfl) ?_
                      have ef : fAdd S (q : Int) (r : Int) x3 = (adn S r x3 k, ads S q r x3 k) := by
                        unfold fAdd
                        simp only [Int.toNat_natCast]
                        rw [if_neg (by omega), if_neg (by omega), show (S 23 q).toNat = k by omega]
                      exact z_ret E X hQ (⟨(congrArg (fun w => some (Value.int (i32 w.1))) ef).symm, U, by rw [ef]; exact MC_k (S := S) (ads_k (by decide) _) (ads_k (by decide) _) (ads_k (by decide) _) (ads_k (by decide) _) (ads_k (by decide) _) hC, by rw [ef]; exact X.1⟩) dX6_add_187
                    · have han := adn_rng (S := S) (r := r) (sh := x3) k
                      refine lv_iload E.1 E.2.1 dX6_add_107 (lv_at hl 5 rfl) ?_
                      refine z_i2l E ⟨by omega, by omega⟩ dX6_add_109 ?_
                      refine lv_iload_n E.1 E.2.1 dX6_add_110 rfl (lv_at hl 3 rfl) ?_
                      refine z_i2l E ⟨by omega, by omega⟩ dX6_add_111 ?_
                      refine z_ladd E dX6_add_112 ?_
                      refine lv_lstore (lv' := [(6, .long (i64 ((k : Int) + x3))), (0, .ref (am 0)), (1, .int (i32 (q : Int))), (2, .int (i32 (r : Int))), (3, .int (i32 x3)), (4, .int (i32 (adn S r x3 k))), (5, .int (i32 (k : Int)))]) E.1 E.2.1 dX6_add_113 hl (by decide) rfl (fun ls hl => ?_)
                      refine lv_lload E.1 E.2.1 dX6_add_115 (lv_at hl 0 rfl) ?_
                      refine z_lconst (z := 0) E dX6_add_117 (by decide +kernel) ?_
                      refine lv_aload_n E.1 E.2.1 dX6_add_118 rfl (lv_at hl 1 rfl) ?_
                      refine z_get E X (lM_0 C cA am (ads S q r x3 k) U) rfl iX6 23 (by decide) (by decide +kernel) (v := .ref (am 23)) rfl dX6_add_119 ?_
                      refine lv_iload_n E.1 E.2.1 dX6_add_122 rfl (lv_at hl 3 rfl) ?_
                      refine z_iald E X (lM_23 C cA am (ads S q r x3 k) U) r (by omega) (by omega) (by decide) dX6_add_123 ?_
                      refine z_top (S 23 r) (by rw [ads_k (by decide)]) ?_
                      refine z_iconst E dX6_add_124 ?_
                      refine z_isub E dX6_add_125 ?_
                      refine z_i2l E ⟨by omega, by omega⟩ dX6_add_126 ?_
                      refine z_callJ (As := [.long (i64 ((k : Int) + x3)), .long (i64 0), .long (i64 ((S 23 r) - 1))]) (rest := []) (n := 3) E X (c_in l D cA B0 _ ((k : Int) + x3) 0 ((S 23 r) - 1) ⟨by omega, by omega⟩ ⟨by omega, by omega⟩ ⟨by omega, by omega⟩) gX6_add_X6_in rfl (by decide +kernel) ⟨by decide, by decide⟩ rfl hl.1 rfl (Nat.le_of_ble_eq_true rfl) dX6_add_127 ⟨by decide, by decide⟩ rfl 0 0 ⟨rfl, rfl⟩ (fun v H locs hv hS_13 => ?_)
                      obtain ⟨hH, z_14, rfl, ez_14⟩ := hv
                      subst hH
                      replace X := X.same hS_13
                      refine z_feq E 179 ⟨by omega, by omega⟩ dX6_add_130 (by decide) (fun h130_15 => ?_) (fun h130_15 => ?_)
                      · have ea1 : ads S q r x3 (k + 1) = ads S q r x3 k := by rw [ads_S, if_neg (by omega)]
                        have en1 : adn S r x3 (k + 1) = adn S r x3 k := by rw [adn_S, if_neg (by omega)]
                        rw [← ea1] at X
                        rw [← en1] at hl
                        refine z_iinc (lv' := [(5, .int (i32 ((k + 1 : Nat) : Int))), (6, .long (i64 ((k : Int) + x3))), (0, .ref (am 0)), (1, .int (i32 (q : Int))), (2, .int (i32 (r : Int))), (3, .int (i32 x3)), (4, .int (i32 (adn S r x3 (k + 1))))]) E dX6_add_179 hl (k := 6) rfl (by decide) rfl (fun ls hl => ?_)
                        refine lv_goto (tgt := 96) E.1 E.2.1 dX6_add_182 (by decide) ?_
                        exact ih96 (k + 1) _ _ _ (by omega) (by omega) X (lv_sub hl [2, 3, 4, 5, 6, 0] rfl)
                      · refine z_bipush E dX6_add_133 (by decide +kernel) ?_
                        refine lv_iload_n E.1 E.2.1 dX6_add_135 rfl (lv_at hl 3 rfl) ?_
                        refine z_imul E dX6_add_136 ?_
                        refine lv_lload E.1 E.2.1 dX6_add_137 (lv_at hl 0 rfl) ?_
                        refine z_l2i E dX6_add_139 ?_
                        refine z_iadd E dX6_add_140 ?_
                        refine z_top ((64 * r + ((k : Int) + x3).toNat : Nat) : Int) (by omega) ?_
                        refine lv_istore (lv' := [(8, .int (i32 ((64 * r + ((k : Int) + x3).toNat : Nat) : Int))), (6, .long (i64 ((k : Int) + x3))), (0, .ref (am 0)), (1, .int (i32 (q : Int))), (2, .int (i32 (r : Int))), (3, .int (i32 x3)), (4, .int (i32 (adn S r x3 k))), (5, .int (i32 (k : Int)))]) E.1 E.2.1 dX6_add_141 hl (by decide) rfl (fun ls hl => ?_)
                        refine lv_aload_n E.1 E.2.1 dX6_add_143 rfl (lv_at hl 2 rfl) ?_
                        refine z_get E X (lM_0 C cA am (ads S q r x3 k) U) rfl iX6 25 (by decide) (by decide +kernel) (v := .ref (am 25)) rfl dX6_add_144 ?_
                        refine lv_iload E.1 E.2.1 dX6_add_147 (lv_at hl 0 rfl) ?_
                        refine lv_aload_n E.1 E.2.1 dX6_add_149 rfl (lv_at hl 2 rfl) ?_
                        refine z_get E X (lM_0 C cA am (ads S q r x3 k) U) rfl iX6 24 (by decide) (by decide +kernel) (v := .ref (am 24)) rfl dX6_add_150 ?_
                        refine lv_iload_n E.1 E.2.1 dX6_add_153 rfl (lv_at hl 4 rfl) ?_
                        refine z_iald E X (lM_24 C cA am (ads S q r x3 k) U) r (by omega) (by omega) (by decide) dX6_add_154 ?_
                        refine z_top (S 24 r) (by rw [ads_k (by decide)]) ?_
                        refine lv_aload_n E.1 E.2.1 dX6_add_155 rfl (lv_at hl 2 rfl) ?_
                        refine z_get E X (lM_0 C cA am (ads S q r x3 k) U) rfl iX6 25 (by decide) (by decide +kernel) (v := .ref (am 25)) rfl dX6_add_156 ?_
                        refine lv_iload E.1 E.2.1 dX6_add_159 (lv_at hl 0 rfl) ?_
                        refine z_iald E X (lM_25 C cA am (ads S q r x3 k) U) (64 * r + ((k : Int) + x3).toNat) (by omega) (by omega) (by decide) dX6_add_161 ?_
                        have hz1 := ads_zr (S := S) (q := q) (r := r) (sh := x3) hI.2.2.2.2.1.2 k (64 * r + ((k : Int) + x3).toNat)
                        unfold zr at hz1
                        refine z_i2l E ⟨by omega, by omega⟩ dX6_add_162 ?_
                        refine lv_aload_n E.1 E.2.1 dX6_add_163 rfl (lv_at hl 2 rfl) ?_
                        refine z_get E X (lM_0 C cA am (ads S q r x3 k) U) rfl iX6 26 (by decide) (by decide +kernel) (v := .ref (am 26)) rfl dX6_add_164 ?_
                        refine lv_iload E.1 E.2.1 dX6_add_167 (lv_at hl 7 rfl) ?_
                        refine z_iald E X (lM_26 C cA am (ads S q r x3 k) U) k (by omega) (by omega) (by decide) dX6_add_169 ?_
                        refine z_top (S 25 (64 * q + k)) (hsp k (by omega)) ?_
                        have hz2 := hI.2.2.2.2.1.2 (64 * q + k)
                        unfold zr at hz2
                        refine z_i2l E ⟨by omega, by omega⟩ dX6_add_170 ?_
                        refine z_ladd E dX6_add_171 ?_
                        refine z_callJ (As := [.int (i32 (S 24 r)), .long (i64 (((ads S q r x3 k) 25 (64 * r + ((k : Int) + x3).toNat)) + (S 25 (64 * q + k))))]) (rest := [.int (i32 ((64 * r + ((k : Int) + x3).toNat : Nat) : Int)), .ref (am 25)]) (n := 2) E X (c_as l D cA B0 _ (S 24 r) (((ads S q r x3 k) 25 (64 * r + ((k : Int) + x3).toNat)) + (S 25 (64 * q + k))) (by omega) (by omega)) gX6_add_X6_as rfl (by decide +kernel) ⟨by decide, by decide⟩ rfl hl.1 rfl (Nat.le_of_ble_eq_true rfl) dX6_add_172 ⟨by decide, by decide⟩ rfl 0 0 ⟨rfl, rfl⟩ (fun v H locs hv hS_16 => ?_)
                        obtain ⟨hH, rfl⟩ := hv
                        subst hH
                        replace X := X.same hS_16
                        refine z_iast E X (lM_25 C cA am (ads S q r x3 k) U) (64 * r + ((k : Int) + x3).toNat) (by omega) (by omega) (by decide) dX6_add_175 (fun H locs X => ?_)
                        have X := ma_25 X
                        refine z_iinc (lv' := [(4, .int (i32 ((adn S r x3 k) + 1))), (8, .int (i32 ((64 * r + ((k : Int) + x3).toNat : Nat) : Int))), (6, .long (i64 ((k : Int) + x3))), (0, .ref (am 0)), (1, .int (i32 (q : Int))), (2, .int (i32 (r : Int))), (3, .int (i32 x3)), (5, .int (i32 (k : Int)))]) E dX6_add_176 hl (k := 6) rfl (by decide) rfl (fun ls hl => ?_)
                        have ea1 : ads S q r x3 (k + 1) = zs (ads S q r x3 k) 25 (64 * r + ((k : Int) + x3).toNat) (AS (S 24 r) (((ads S q r x3 k) 25 (64 * r + ((k : Int) + x3).toNat)) + (S 25 (64 * q + k)))) := by rw [ads_S, if_pos (by omega)]
                        have en1 : adn S r x3 (k + 1) = adn S r x3 k + 1 := by rw [adn_S, if_pos (by omega)]
                        rw [← ea1] at X
                        rw [← en1] at hl
                        refine z_iinc (lv' := [(5, .int (i32 ((k + 1 : Nat) : Int))), (4, .int (i32 (adn S r x3 (k + 1)))), (8, .int (i32 ((64 * r + ((k : Int) + x3).toNat : Nat) : Int))), (6, .long (i64 ((k : Int) + x3))), (0, .ref (am 0)), (1, .int (i32 (q : Int))), (2, .int (i32 (r : Int))), (3, .int (i32 x3))]) E dX6_add_179 hl (k := 7) rfl (by decide) rfl (fun ls hl => ?_)
                        refine lv_goto (tgt := 96) E.1 E.2.1 dX6_add_182 (by decide) ?_
                        exact ih96 (k + 1) _ _ _ (by omega) (by omega) X (lv_sub hl [4, 5, 6, 7, 1, 0] rfl)
                exact key96 (((S 23 q).toNat - 0) + 1) 0 _ _ _ (by omega) (by omega) X (lv_sub hl [2, 3, 4, 5, 1, 0] rfl)
              · refine lv_aload_n E.1 E.2.1 dX6_add_65 rfl (lv_at hl 0 rfl) ?_
                refine z_get E X (lM_0 C cA am S U) rfl iX6 26 (by decide) (by decide +kernel) (v := .ref (am 26)) rfl dX6_add_66 ?_
                refine lv_iload E.1 E.2.1 dX6_add_69 (lv_at hl 4 rfl) ?_
                refine lv_aload_n E.1 E.2.1 dX6_add_71 rfl (lv_at hl 0 rfl) ?_
                refine z_get E X (lM_0 C cA am S U) rfl iX6 25 (by decide) (by decide +kernel) (v := .ref (am 25)) rfl dX6_add_72 ?_
                refine z_bipush E dX6_add_75 (by decide +kernel) ?_
                refine lv_iload_n E.1 E.2.1 dX6_add_77 rfl (lv_at hl 1 rfl) ?_
                refine z_imul E dX6_add_78 ?_
                refine lv_iload E.1 E.2.1 dX6_add_79 (lv_at hl 4 rfl) ?_
                refine z_iadd E dX6_add_81 ?_
                refine z_iald E X (lM_25 C cA am S U) ((64 * q) + i) (by omega) (by omega) (by decide) dX6_add_82 ?_
                refine z_iast E X (lM_26 C cA am S U) i (by omega) (by omega) (by decide) dX6_add_83 (fun H locs X => ?_)
                have X := ma_26 X
                refine z_iinc (lv' := [(4, .int (i32 ((i + 1 : Nat) : Int))), (0, .ref (am 0)), (1, .int (i32 (q : Int))), (2, .int (i32 (r : Int))), (3, .int (i32 x3))]) E dX6_add_84 hl (k := 4) rfl (by decide) rfl (fun ls hl => ?_)
                refine lv_goto (tgt := 54) E.1 E.2.1 dX6_add_87 (by decide) ?_
                exact ih54 (i + 1) (zs U 26 i (S 25 ((64 * q) + i))) _ _ _ (by omega) (by omega) hC (fun k hk => by rw [zs_eq]; exact (if h : k = i then (by rw [h, zg_eq]) else (by rw [zg_ne h]; exact hsp k (by omega)))) X (lv_sub hl [1, 2, 3, 4, 0] rfl)
          exact key54 (((S 23 q).toNat - 0) + 1) 0 U _ _ _ (by omega) (by omega) hC (fun k hk => absurd hk (Nat.not_lt_zero k)) X (lv_sub hl [1, 2, 3, 4, 0] rfl)
        · refine lv_aload_n E.1 E.2.1 dX6_add_44 rfl (lv_at hl 0 rfl) ?_
          refine z_bipush E dX6_add_45 (by decide +kernel) ?_
          refine z_callV (As := [.int (i32 (-11))]) (rest := []) (n := 1) E X (lM_0 C cA am S U) rfl (m_finds l D cA B0 C am S U (-11)) gX6_add_X6_finds rfl (by decide +kernel) ⟨by decide, by decide⟩ rfl hl.1 rfl (Nat.le_of_ble_eq_true rfl) dX6_add_47 ⟨by decide, by decide⟩ X.1 0 0 ⟨rfl, rfl⟩ (fun v H locs hv hS_17 => ?_)
          obtain ⟨rfl, hw⟩ := hv
          replace X : zX D B0 (zj C (layM cA am (zs S 27 0 (S 27 0 + 1)) U)) s.heap H locs := ⟨hw, hS_17⟩
          have ef : fAdd S (q : Int) (r : Int) x3 = (-11, zs S 27 0 (S 27 0 + 1)) := by
            unfold fAdd fFind
            try simp only [Int.toNat_natCast]
            repeat' split
            all_goals first | rfl | (exfalso; omega)
          exact z_ret E X hQ (⟨(congrArg (fun w => some (Value.int (i32 w.1))) ef).symm, U, by rw [ef]; exact MC_k (S := S) rfl rfl rfl rfl rfl hC, by rw [ef]; exact X.1⟩) dX6_add_50
    · refine lv_aload_n E.1 E.2.1 dX6_add_19 rfl (lv_at hl 0 rfl) ?_
      refine z_bipush E dX6_add_20 (by decide +kernel) ?_
      refine z_callV (As := [.int (i32 (-12))]) (rest := []) (n := 1) E X (lM_0 C cA am S U) rfl (m_finds l D cA B0 C am S U (-12)) gX6_add_X6_finds rfl (by decide +kernel) ⟨by decide, by decide⟩ rfl hl.1 rfl (Nat.le_of_ble_eq_true rfl) dX6_add_22 ⟨by decide, by decide⟩ X.1 0 0 ⟨rfl, rfl⟩ (fun v H locs hv hS_18 => ?_)
      obtain ⟨rfl, hw⟩ := hv
      replace X : zX D B0 (zj C (layM cA am (zs S 27 0 (S 27 0 + 1)) U)) s.heap H locs := ⟨hw, hS_18⟩
      have ef : fAdd S x1 x2 x3 = (-12, zs S 27 0 (S 27 0 + 1)) := by
        unfold fAdd fFind
        try simp only [Int.toNat_natCast]
        repeat' split
        all_goals first | rfl | (exfalso; omega)
      exact z_ret E X hQ (⟨(congrArg (fun w => some (Value.int (i32 w.1))) ef).symm, U, by rw [ef]; exact MC_k (S := S) rfl rfl rfl rfl rfl hC, by rw [ef]; exact X.1⟩) dX6_add_25

abbrev rX6_copy : Room := { frames := 2, cells := 0, slots := 0, locals := 45 }
set_option maxHeartbeats 4000000 in
set_option maxRecDepth 100000 in
theorem M_copy (l : Launch) (D : va_G) (cA : Nat → ClassId) (B0 : Nat) (C : zL) (am : Nat → Nat) (S U : zS) (hI : SI S) (hC : MC S U) (x1 x2 x3 x4 x5 : Int) (hx1 : zr x1) (hx2 : zr x2) (hx3 : zr x3) (hx4 : zr x4) (hx5 : zr x5) : zM l yX6_copy wsX6_copy rX6_copy [.ref (am 0), .int (i32 x1), .int (i32 x2), .int (i32 x3), .int (i32 x4), .int (i32 x5)] D cA B0 (zW D B0 (zj C (layM cA am S U))) (fun v H => v = some (.int (i32 (fCopy S x1 x2 x3 x4 x5).1)) ∧ ∃ U : zS, MC (fCopy S x1 x2 x3 x4 x5).2 U ∧ zW D B0 (zj C (layM cA am (fCopy S x1 x2 x3 x4 x5).2 U)) H) := by
  refine z_met (cc := cX6_copy) (maxL := 7) (ret := (some .int)) (by decide) rfl (Nat.le_of_ble_eq_true rfl) ?_
  intro p e s m args below meth c ls Q hQ E hP hB hS hl
  have hl : lv_has ls 7 [(0, .ref (am 0)), (1, .int (i32 x1)), (2, .int (i32 x2)), (3, .int (i32 x3)), (4, .int (i32 x4)), (5, .int (i32 x5))] := hl
  have iX6 : ∀ w ∈ u_ws RX6 TX6 28, w ∈ wsX6_copy := by decide +kernel
  have X : zX D B0 (zj C (layM cA am S U)) s.heap s.heap [] := ⟨hP, hS⟩
  have hI0 := hI.1
  unfold SI0 at hI0
  obtain ⟨b1, b2, b3, b4, b5, b8, b17, b19, b7⟩ := hI0
  unfold zr at hx1 hx2 hx3 hx4 hx5
  refine lv_aload_n E.1 E.2.1 dX6_copy_0 rfl (lv_at hl 0 rfl) ?_
  refine z_iconst E dX6_copy_1 ?_
  refine z_put E X (lM_0 C cA am S U) rfl iX6 tyX6 tyX6_ok nmX6 0 (by decide) (by decide +kernel) rfl rfl rfl (Nat.le_of_ble_eq_true rfl) dX6_copy_2 (fun H locs X => ?_)
  have X := mp_0 X
  have hC : MC S (zs U 0 0 0) := MC_own hC
  generalize zs U 0 0 0 = U at X hC
  refine lv_iload_n E.1 E.2.1 dX6_copy_5 rfl (lv_at hl 1 rfl) ?_
  refine z_callJ (As := [.int (i32 x1)]) (rest := []) (n := 1) E X (c_isSheet l D cA B0 _ x1 ⟨by omega, by omega⟩) gX6_copy_X6_isSheet rfl (by decide +kernel) ⟨by decide, by decide⟩ rfl hl.1 rfl (Nat.le_of_ble_eq_true rfl) dX6_copy_6 ⟨by decide, by decide⟩ rfl 0 0 ⟨rfl, rfl⟩ (fun v H locs hv hS_1 => ?_)
  obtain ⟨hH, z_2, rfl, ez_2⟩ := hv
  subst hH
  replace X := X.same hS_1
  refine z_feq E 19 ⟨by omega, by omega⟩ dX6_copy_9 (by decide) (fun h9_3 => ?_) (fun h9_3 => ?_)
  · refine lv_aload_n E.1 E.2.1 dX6_copy_19 rfl (lv_at hl 0 rfl) ?_
    refine z_bipush E dX6_copy_20 (by decide +kernel) ?_
    refine z_callV (As := [.int (i32 (-12))]) (rest := []) (n := 1) E X (lM_0 C cA am S U) rfl (m_finds l D cA B0 C am S U (-12)) gX6_copy_X6_finds rfl (by decide +kernel) ⟨by decide, by decide⟩ rfl hl.1 rfl (Nat.le_of_ble_eq_true rfl) dX6_copy_22 ⟨by decide, by decide⟩ X.1 0 0 ⟨rfl, rfl⟩ (fun v H locs hv hS_4 => ?_)
    obtain ⟨rfl, hw⟩ := hv
    replace X : zX D B0 (zj C (layM cA am (zs S 27 0 (S 27 0 + 1)) U)) s.heap H locs := ⟨hw, hS_4⟩
    have ef : fCopy S x1 x2 x3 x4 x5 = (-12, zs S 27 0 (S 27 0 + 1)) := by
      unfold fCopy fFind
      try simp only [Int.toNat_natCast]
      repeat' split
      all_goals first | rfl | (exfalso; omega)
    exact z_ret E X hQ (⟨(congrArg (fun w => some (Value.int (i32 w.1))) ef).symm, U, by rw [ef]; exact MC_k (S := S) rfl rfl rfl rfl rfl hC, by rw [ef]; exact X.1⟩) dX6_copy_25
  · refine lv_iload_n E.1 E.2.1 dX6_copy_12 rfl (lv_at hl 3 rfl) ?_
    refine z_callJ (As := [.int (i32 x3)]) (rest := []) (n := 1) E X (c_isSheet l D cA B0 _ x3 ⟨by omega, by omega⟩) gX6_copy_X6_isSheet rfl (by decide +kernel) ⟨by decide, by decide⟩ rfl hl.1 rfl (Nat.le_of_ble_eq_true rfl) dX6_copy_13 ⟨by decide, by decide⟩ rfl 0 0 ⟨rfl, rfl⟩ (fun v H locs hv hS_5 => ?_)
    obtain ⟨hH, z_6, rfl, ez_6⟩ := hv
    subst hH
    replace X := X.same hS_5
    refine z_fne E 26 ⟨by omega, by omega⟩ dX6_copy_16 (by decide) (fun h16_7 => ?_) (fun h16_7 => ?_)
    · obtain ⟨q, rfl⟩ : ∃ q : Nat, x1 = (q : Int) := ⟨x1.toNat, by omega⟩
      obtain ⟨r, rfl⟩ : ∃ r : Nat, x3 = (r : Int) := ⟨x3.toNat, by omega⟩
      have h4 := hI.2.2.2.2.1.1 q (by omega)
      have h4r := hI.2.2.2.2.1.1 r (by omega)
      refine lv_aload_n E.1 E.2.1 dX6_copy_26 rfl (lv_at hl 0 rfl) ?_
      refine z_get E X (lM_0 C cA am S U) rfl iX6 23 (by decide) (by decide +kernel) (v := .ref (am 23)) rfl dX6_copy_27 ?_
      refine lv_iload_n E.1 E.2.1 dX6_copy_30 rfl (lv_at hl 1 rfl) ?_
      refine z_iald E X (lM_23 C cA am S U) q (by omega) (by omega) (by decide) dX6_copy_31 ?_
      refine z_flt E 44 ⟨by omega, by omega⟩ dX6_copy_32 (by decide) (fun h32_8 => ?_) (fun h32_8 => ?_)
      · refine lv_aload_n E.1 E.2.1 dX6_copy_44 rfl (lv_at hl 0 rfl) ?_
        refine z_bipush E dX6_copy_45 (by decide +kernel) ?_
        refine z_callV (As := [.int (i32 (-11))]) (rest := []) (n := 1) E X (lM_0 C cA am S U) rfl (m_finds l D cA B0 C am S U (-11)) gX6_copy_X6_finds rfl (by decide +kernel) ⟨by decide, by decide⟩ rfl hl.1 rfl (Nat.le_of_ble_eq_true rfl) dX6_copy_47 ⟨by decide, by decide⟩ X.1 0 0 ⟨rfl, rfl⟩ (fun v H locs hv hS_9 => ?_)
        obtain ⟨rfl, hw⟩ := hv
        replace X : zX D B0 (zj C (layM cA am (zs S 27 0 (S 27 0 + 1)) U)) s.heap H locs := ⟨hw, hS_9⟩
        have ef : fCopy S (q : Int) x2 (r : Int) x4 x5 = (-11, zs S 27 0 (S 27 0 + 1)) := by
          unfold fCopy fFind
          try simp only [Int.toNat_natCast]
          repeat' split
          all_goals first | rfl | (exfalso; omega)
        exact z_ret E X hQ (⟨(congrArg (fun w => some (Value.int (i32 w.1))) ef).symm, U, by rw [ef]; exact MC_k (S := S) rfl rfl rfl rfl rfl hC, by rw [ef]; exact X.1⟩) dX6_copy_50
      · refine lv_aload_n E.1 E.2.1 dX6_copy_35 rfl (lv_at hl 0 rfl) ?_
        refine z_get E X (lM_0 C cA am S U) rfl iX6 23 (by decide) (by decide +kernel) (v := .ref (am 23)) rfl dX6_copy_36 ?_
        refine lv_iload_n E.1 E.2.1 dX6_copy_39 rfl (lv_at hl 3 rfl) ?_
        refine z_iald E X (lM_23 C cA am S U) r (by omega) (by omega) (by decide) dX6_copy_40 ?_
        refine z_fge E 51 ⟨by omega, by omega⟩ dX6_copy_41 (by decide) (fun h41_10 => ?_) (fun h41_10 => ?_)
        · refine lv_aload_n E.1 E.2.1 dX6_copy_51 rfl (lv_at hl 0 rfl) ?_
          refine z_get E X (lM_0 C cA am S U) rfl iX6 24 (by decide) (by decide +kernel) (v := .ref (am 24)) rfl dX6_copy_52 ?_
          refine lv_iload_n E.1 E.2.1 dX6_copy_55 rfl (lv_at hl 1 rfl) ?_
          refine z_iald E X (lM_24 C cA am S U) q (by omega) (by omega) (by decide) dX6_copy_56 ?_
          refine lv_aload_n E.1 E.2.1 dX6_copy_57 rfl (lv_at hl 0 rfl) ?_
          refine z_get E X (lM_0 C cA am S U) rfl iX6 24 (by decide) (by decide +kernel) (v := .ref (am 24)) rfl dX6_copy_58 ?_
          refine lv_iload_n E.1 E.2.1 dX6_copy_61 rfl (lv_at hl 3 rfl) ?_
          refine z_iald E X (lM_24 C cA am S U) r (by omega) (by omega) (by decide) dX6_copy_62 ?_
          refine z_ceq E 73 ⟨by omega, by omega⟩ ⟨by omega, by omega⟩ dX6_copy_63 (by decide) (fun h63_11 => ?_) (fun h63_11 => ?_)
          · refine lv_iload E.1 E.2.1 dX6_copy_73 (lv_at hl 5 rfl) ?_
            refine z_fge E 85 ⟨by omega, by omega⟩ dX6_copy_75 (by decide) (fun h75_12 => ?_) (fun h75_12 => ?_)
            · refine lv_iload_n E.1 E.2.1 dX6_copy_85 rfl (lv_at hl 2 rfl) ?_
              refine z_flt E 129 ⟨by omega, by omega⟩ dX6_copy_86 (by decide) (fun h86_13 => ?_) (fun h86_13 => ?_)
              · refine lv_aload_n E.1 E.2.1 dX6_copy_129 rfl (lv_at hl 0 rfl) ?_
                refine z_bipush E dX6_copy_130 (by decide +kernel) ?_
                refine z_callV (As := [.int (i32 (-12))]) (rest := []) (n := 1) E X (lM_0 C cA am S U) rfl (m_finds l D cA B0 C am S U (-12)) gX6_copy_X6_finds rfl (by decide +kernel) ⟨by decide, by decide⟩ rfl hl.1 rfl (Nat.le_of_ble_eq_true rfl) dX6_copy_132 ⟨by decide, by decide⟩ X.1 0 0 ⟨rfl, rfl⟩ (fun v H locs hv hS_14 => ?_)
                obtain ⟨rfl, hw⟩ := hv
                replace X : zX D B0 (zj C (layM cA am (zs S 27 0 (S 27 0 + 1)) U)) s.heap H locs := ⟨hw, hS_14⟩
                have ef : fCopy S (q : Int) x2 (r : Int) x4 x5 = (-12, zs S 27 0 (S 27 0 + 1)) := by
                  unfold fCopy fFind
                  try simp only [Int.toNat_natCast]
                  repeat' split
                  all_goals first | rfl | (exfalso; omega)
                exact z_ret E X hQ (⟨(congrArg (fun w => some (Value.int (i32 w.1))) ef).symm, U, by rw [ef]; exact MC_k (S := S) rfl rfl rfl rfl rfl hC, by rw [ef]; exact X.1⟩) dX6_copy_135
              · refine lv_iload E.1 E.2.1 dX6_copy_89 (lv_at hl 4 rfl) ?_
                refine z_flt E 129 ⟨by omega, by omega⟩ dX6_copy_91 (by decide) (fun h91_15 => ?_) (fun h91_15 => ?_)
                · refine lv_aload_n E.1 E.2.1 dX6_copy_129 rfl (lv_at hl 0 rfl) ?_
                  refine z_bipush E dX6_copy_130 (by decide +kernel) ?_
                  refine z_callV (As := [.int (i32 (-12))]) (rest := []) (n := 1) E X (lM_0 C cA am S U) rfl (m_finds l D cA B0 C am S U (-12)) gX6_copy_X6_finds rfl (by decide +kernel) ⟨by decide, by decide⟩ rfl hl.1 rfl (Nat.le_of_ble_eq_true rfl) dX6_copy_132 ⟨by decide, by decide⟩ X.1 0 0 ⟨rfl, rfl⟩ (fun v H locs hv hS_16 => ?_)
                  obtain ⟨rfl, hw⟩ := hv
                  replace X : zX D B0 (zj C (layM cA am (zs S 27 0 (S 27 0 + 1)) U)) s.heap H locs := ⟨hw, hS_16⟩
                  have ef : fCopy S (q : Int) x2 (r : Int) x4 x5 = (-12, zs S 27 0 (S 27 0 + 1)) := by
                    unfold fCopy fFind
                    try simp only [Int.toNat_natCast]
                    repeat' split
                    all_goals first | rfl | (exfalso; omega)
                  exact z_ret E X hQ (⟨(congrArg (fun w => some (Value.int (i32 w.1))) ef).symm, U, by rw [ef]; exact MC_k (S := S) rfl rfl rfl rfl rfl hC, by rw [ef]; exact X.1⟩) dX6_copy_135
                · refine lv_iload_n E.1 E.2.1 dX6_copy_94 rfl (lv_at hl 2 rfl) ?_
                  refine z_i2l E ⟨by omega, by omega⟩ dX6_copy_95 ?_
                  refine lv_iload E.1 E.2.1 dX6_copy_96 (lv_at hl 5 rfl) ?_
                  refine z_i2l E ⟨by omega, by omega⟩ dX6_copy_98 ?_
                  refine z_ladd E dX6_copy_99 ?_
                  refine lv_aload_n E.1 E.2.1 dX6_copy_100 rfl (lv_at hl 0 rfl) ?_
                  refine z_get E X (lM_0 C cA am S U) rfl iX6 23 (by decide) (by decide +kernel) (v := .ref (am 23)) rfl dX6_copy_101 ?_
                  refine lv_iload_n E.1 E.2.1 dX6_copy_104 rfl (lv_at hl 1 rfl) ?_
                  refine z_iald E X (lM_23 C cA am S U) q (by omega) (by omega) (by decide) dX6_copy_105 ?_
                  refine z_i2l E ⟨by omega, by omega⟩ dX6_copy_106 ?_
                  refine z_lcmp E ⟨by omega, by omega⟩ ⟨by omega, by omega⟩ dX6_copy_107 (fun z_17 hrz_17 hlz_17 hez_17 => ?_)
                  unfold zr at hrz_17
                  refine z_fgt E 129 ⟨by omega, by omega⟩ dX6_copy_108 (by decide) (fun h108_18 => ?_) (fun h108_18 => ?_)
                  · refine lv_aload_n E.1 E.2.1 dX6_copy_129 rfl (lv_at hl 0 rfl) ?_
                    refine z_bipush E dX6_copy_130 (by decide +kernel) ?_
                    refine z_callV (As := [.int (i32 (-12))]) (rest := []) (n := 1) E X (lM_0 C cA am S U) rfl (m_finds l D cA B0 C am S U (-12)) gX6_copy_X6_finds rfl (by decide +kernel) ⟨by decide, by decide⟩ rfl hl.1 rfl (Nat.le_of_ble_eq_true rfl) dX6_copy_132 ⟨by decide, by decide⟩ X.1 0 0 ⟨rfl, rfl⟩ (fun v H locs hv hS_19 => ?_)
                    obtain ⟨rfl, hw⟩ := hv
                    replace X : zX D B0 (zj C (layM cA am (zs S 27 0 (S 27 0 + 1)) U)) s.heap H locs := ⟨hw, hS_19⟩
                    have ef : fCopy S (q : Int) x2 (r : Int) x4 x5 = (-12, zs S 27 0 (S 27 0 + 1)) := by
                      unfold fCopy fFind
                      try simp only [Int.toNat_natCast]
                      repeat' split
                      all_goals first | rfl | (exfalso; omega)
                    exact z_ret E X hQ (⟨(congrArg (fun w => some (Value.int (i32 w.1))) ef).symm, U, by rw [ef]; exact MC_k (S := S) rfl rfl rfl rfl rfl hC, by rw [ef]; exact X.1⟩) dX6_copy_135
                  · refine lv_iload E.1 E.2.1 dX6_copy_111 (lv_at hl 4 rfl) ?_
                    refine z_i2l E ⟨by omega, by omega⟩ dX6_copy_113 ?_
                    refine lv_iload E.1 E.2.1 dX6_copy_114 (lv_at hl 5 rfl) ?_
                    refine z_i2l E ⟨by omega, by omega⟩ dX6_copy_116 ?_
                    refine z_ladd E dX6_copy_117 ?_
                    refine lv_aload_n E.1 E.2.1 dX6_copy_118 rfl (lv_at hl 0 rfl) ?_
                    refine z_get E X (lM_0 C cA am S U) rfl iX6 23 (by decide) (by decide +kernel) (v := .ref (am 23)) rfl dX6_copy_119 ?_
                    refine lv_iload_n E.1 E.2.1 dX6_copy_122 rfl (lv_at hl 3 rfl) ?_
                    refine z_iald E X (lM_23 C cA am S U) r (by omega) (by omega) (by decide) dX6_copy_123 ?_
                    refine z_i2l E ⟨by omega, by omega⟩ dX6_copy_124 ?_
                    refine z_lcmp E ⟨by omega, by omega⟩ ⟨by omega, by omega⟩ dX6_copy_125 (fun z_20 hrz_20 hlz_20 hez_20 => ?_)
                    unfold zr at hrz_20
                    refine z_fle E 136 ⟨by omega, by omega⟩ dX6_copy_126 (by decide) (fun h126_21 => ?_) (fun h126_21 => ?_)
                    · obtain ⟨i0, rfl⟩ : ∃ i0 : Nat, x2 = (i0 : Int) := ⟨x2.toNat, by omega⟩
                      obtain ⟨j0, rfl⟩ : ∃ j0 : Nat, x4 = (j0 : Int) := ⟨x4.toNat, by omega⟩
                      obtain ⟨nn, rfl⟩ : ∃ nn : Nat, x5 = (nn : Int) := ⟨x5.toNat, by omega⟩
                      refine z_iconst E dX6_copy_136 ?_
                      refine z_top (0 : Int) (rfl) ?_
                      refine lv_istore (lv' := [(6, .int (i32 (0 : Int))), (0, .ref (am 0)), (1, .int (i32 (q : Int))), (2, .int (i32 (i0 : Int))), (3, .int (i32 (r : Int))), (4, .int (i32 (j0 : Int))), (5, .int (i32 (nn : Int)))]) E.1 E.2.1 dX6_copy_137 hl (by decide) rfl (fun ls hl => ?_)
                      have key139 : ∀ (N : Nat) (k : Nat) (U : zS) (H : Heap) (locs : List Loc) (ls : Array Slot), (nn - k) < N → (k ≤ nn) → (MC S U) → (∀ j : Nat, j < k → U 26 j = S 25 (64 * q + i0 + j)) → zX D B0 (zj C (layM cA am S U)) s.heap H locs → lv_has ls 7 [(0, .ref (am 0)), (1, .int (i32 (q : Int))), (2, .int (i32 (i0 : Int))), (3, .int (i32 (r : Int))), (4, .int (i32 (j0 : Int))), (5, .int (i32 (nn : Int))), (6, .int (i32 (k : Int)))] → W p l e rX6_copy s m args below meth c H locs 0 0 Q (F0 m 139 ls []) := by
                        intro N
                        induction N with
                        | zero => intros; omega
                        | succ N ih139 =>
                          intro k U H locs ls hN hk hC hsp X hl
                          refine lv_iload E.1 E.2.1 dX6_copy_139 (lv_at hl 6 rfl) ?_
                          refine lv_iload E.1 E.2.1 dX6_copy_141 (lv_at hl 5 rfl) ?_
                          refine z_cge E 173 ⟨by omega, by omega⟩ ⟨by omega, by omega⟩ dX6_copy_143 (by decide) (fun h143_22 => ?_) (fun h143_22 => ?_)
                          · refine z_iconst E dX6_copy_173 ?_
                            refine z_top (0 : Int) (rfl) ?_
                            refine lv_istore (lv' := [(6, .int (i32 (0 : Int))), (0, .ref (am 0)), (1, .int (i32 (q : Int))), (2, .int (i32 (i0 : Int))), (3, .int (i32 (r : Int))), (4, .int (i32 (j0 : Int))), (5, .int (i32 (nn : Int)))]) E.1 E.2.1 dX6_copy_174 hl (by decide) rfl (fun ls hl => ?_)
                            have key176 : ∀ (N : Nat) (k2 : Nat) (H : Heap) (locs : List Loc) (ls : Array Slot), (nn - k2) < N → (k2 ≤ nn) → zX D B0 (zj C (layM cA am (cps S q i0 r j0 k2) U)) s.heap H locs → lv_has ls 7 [(0, .ref (am 0)), (1, .int (i32 (q : Int))), (2, .int (i32 (i0 : Int))), (3, .int (i32 (r : Int))), (4, .int (i32 (j0 : Int))), (5, .int (i32 (nn : Int))), (6, .int (i32 (k2 : Int)))] → W p l e rX6_copy s m args below meth c H locs 0 0 Q (F0 m 176 ls []) := by
                              intro N
                              induction N with
                              | zero => intros; omega
                              | succ N ih176 =>
                                intro k2 H locs ls hN hk2 X hl
                                refine lv_iload E.1 E.2.1 dX6_copy_176 (lv_at hl 6 rfl) ?_
                                refine lv_iload E.1 E.2.1 dX6_copy_178 (lv_at hl 5 rfl) ?_
                                refine z_cge E 211 ⟨by omega, by omega⟩ ⟨by omega, by omega⟩ dX6_copy_180 (by decide) (fun h180_23 => ?_) (fun h180_23 => ?_)
                                · refine lv_iload E.1 E.2.1 dX6_copy_211 (lv_at hl 5 rfl) ?_
                                  have ef : fCopy S (q : Int) (i0 : Int) (r : Int) (j0 : Int) (nn : Int) = ((nn : Int), cps S q i0 r j0 k2) := by
                                    unfold fCopy
                                    simp only [Int.toNat_natCast]
                                    rw [if_neg (by omega), if_neg (by omega), if_neg (by omega), if_neg (by omega), if_neg (by omega), show nn = k2 by omega]
                                  exact z_ret E X hQ (⟨(congrArg (fun w => some (Value.int (i32 w.1))) ef).symm, U, by rw [ef]; exact MC_k (S := S) (cps_k (by decide) _) (cps_k (by decide) _) (cps_k (by decide) _) (cps_k (by decide) _) (cps_k (by decide) _) hC, by rw [ef]; exact X.1⟩) dX6_copy_213
                                · refine lv_aload_n E.1 E.2.1 dX6_copy_183 rfl (lv_at hl 0 rfl) ?_
                                  refine z_get E X (lM_0 C cA am (cps S q i0 r j0 k2) U) rfl iX6 25 (by decide) (by decide +kernel) (v := .ref (am 25)) rfl dX6_copy_184 ?_
                                  refine z_bipush E dX6_copy_187 (by decide +kernel) ?_
                                  refine lv_iload_n E.1 E.2.1 dX6_copy_189 rfl (lv_at hl 3 rfl) ?_
                                  refine z_imul E dX6_copy_190 ?_
                                  refine lv_iload E.1 E.2.1 dX6_copy_191 (lv_at hl 4 rfl) ?_
                                  refine z_iadd E dX6_copy_193 ?_
                                  refine lv_iload E.1 E.2.1 dX6_copy_194 (lv_at hl 6 rfl) ?_
                                  refine z_iadd E dX6_copy_196 ?_
                                  refine lv_aload_n E.1 E.2.1 dX6_copy_197 rfl (lv_at hl 0 rfl) ?_
                                  refine z_get E X (lM_0 C cA am (cps S q i0 r j0 k2) U) rfl iX6 26 (by decide) (by decide +kernel) (v := .ref (am 26)) rfl dX6_copy_198 ?_
                                  refine lv_iload E.1 E.2.1 dX6_copy_201 (lv_at hl 6 rfl) ?_
                                  refine z_iald E X (lM_26 C cA am (cps S q i0 r j0 k2) U) k2 (by omega) (by omega) (by decide) dX6_copy_203 ?_
                                  refine z_top (S 25 (64 * q + i0 + k2)) (hsp k2 (by omega)) ?_
                                  refine z_iast E X (lM_25 C cA am (cps S q i0 r j0 k2) U) (((64 * r) + j0) + k2) (by omega) (by omega) (by decide) dX6_copy_204 (fun H locs X => ?_)
                                  have X := ma_25 X
                                  refine z_iinc (lv' := [(6, .int (i32 ((k2 + 1 : Nat) : Int))), (0, .ref (am 0)), (1, .int (i32 (q : Int))), (2, .int (i32 (i0 : Int))), (3, .int (i32 (r : Int))), (4, .int (i32 (j0 : Int))), (5, .int (i32 (nn : Int)))]) E dX6_copy_205 hl (k := 6) rfl (by decide) rfl (fun ls hl => ?_)
                                  refine lv_goto (tgt := 176) E.1 E.2.1 dX6_copy_208 (by decide) ?_
                                  exact ih176 (k2 + 1) _ _ _ (by omega) (by omega) X (lv_sub hl [1, 2, 3, 4, 5, 6, 0] rfl)
                            exact key176 ((nn - 0) + 1) 0 _ _ _ (by omega) (by omega) X (lv_sub hl [1, 2, 3, 4, 5, 6, 0] rfl)
                          · refine lv_aload_n E.1 E.2.1 dX6_copy_146 rfl (lv_at hl 0 rfl) ?_
                            refine z_get E X (lM_0 C cA am S U) rfl iX6 26 (by decide) (by decide +kernel) (v := .ref (am 26)) rfl dX6_copy_147 ?_
                            refine lv_iload E.1 E.2.1 dX6_copy_150 (lv_at hl 6 rfl) ?_
                            refine lv_aload_n E.1 E.2.1 dX6_copy_152 rfl (lv_at hl 0 rfl) ?_
                            refine z_get E X (lM_0 C cA am S U) rfl iX6 25 (by decide) (by decide +kernel) (v := .ref (am 25)) rfl dX6_copy_153 ?_
                            refine z_bipush E dX6_copy_156 (by decide +kernel) ?_
                            refine lv_iload_n E.1 E.2.1 dX6_copy_158 rfl (lv_at hl 1 rfl) ?_
                            refine z_imul E dX6_copy_159 ?_
                            refine lv_iload_n E.1 E.2.1 dX6_copy_160 rfl (lv_at hl 2 rfl) ?_
                            refine z_iadd E dX6_copy_161 ?_
                            refine lv_iload E.1 E.2.1 dX6_copy_162 (lv_at hl 6 rfl) ?_
                            refine z_iadd E dX6_copy_164 ?_
                            refine z_iald E X (lM_25 C cA am S U) (((64 * q) + i0) + k) (by omega) (by omega) (by decide) dX6_copy_165 ?_
                            refine z_iast E X (lM_26 C cA am S U) k (by omega) (by omega) (by decide) dX6_copy_166 (fun H locs X => ?_)
                            have X := ma_26 X
                            refine z_iinc (lv' := [(6, .int (i32 ((k + 1 : Nat) : Int))), (0, .ref (am 0)), (1, .int (i32 (q : Int))), (2, .int (i32 (i0 : Int))), (3, .int (i32 (r : Int))), (4, .int (i32 (j0 : Int))), (5, .int (i32 (nn : Int)))]) E dX6_copy_167 hl (k := 6) rfl (by decide) rfl (fun ls hl => ?_)
                            refine lv_goto (tgt := 139) E.1 E.2.1 dX6_copy_170 (by decide) ?_
                            exact ih139 (k + 1) (zs U 26 k (S 25 (((64 * q) + i0) + k))) _ _ _ (by omega) (by omega) hC (fun j hj => by rw [zs_eq]; exact (if h : j = k then (by rw [h, zg_eq]) else (by rw [zg_ne h]; exact hsp j (by omega)))) X (lv_sub hl [1, 2, 3, 4, 5, 6, 0] rfl)
                      exact key139 ((nn - 0) + 1) 0 U _ _ _ (by omega) (by omega) hC (fun k hk => absurd hk (Nat.not_lt_zero k)) X (lv_sub hl [1, 2, 3, 4, 5, 6, 0] rfl)
                    · refine lv_aload_n E.1 E.2.1 dX6_copy_129 rfl (lv_at hl 0 rfl) ?_
                      refine z_bipush E dX6_copy_130 (by decide +kernel) ?_
                      refine z_callV (As := [.int (i32 (-12))]) (rest := []) (n := 1) E X (lM_0 C cA am S U) rfl (m_finds l D cA B0 C am S U (-12)) gX6_copy_X6_finds rfl (by decide +kernel) ⟨by decide, by decide⟩ rfl hl.1 rfl (Nat.le_of_ble_eq_true rfl) dX6_copy_132 ⟨by decide, by decide⟩ X.1 0 0 ⟨rfl, rfl⟩ (fun v H locs hv hS_24 => ?_)
                      obtain ⟨rfl, hw⟩ := hv
                      replace X : zX D B0 (zj C (layM cA am (zs S 27 0 (S 27 0 + 1)) U)) s.heap H locs := ⟨hw, hS_24⟩
                      have ef : fCopy S (q : Int) x2 (r : Int) x4 x5 = (-12, zs S 27 0 (S 27 0 + 1)) := by
                        unfold fCopy fFind
                        try simp only [Int.toNat_natCast]
                        repeat' split
                        all_goals first | rfl | (exfalso; omega)
                      exact z_ret E X hQ (⟨(congrArg (fun w => some (Value.int (i32 w.1))) ef).symm, U, by rw [ef]; exact MC_k (S := S) rfl rfl rfl rfl rfl hC, by rw [ef]; exact X.1⟩) dX6_copy_135
            · refine lv_aload_n E.1 E.2.1 dX6_copy_78 rfl (lv_at hl 0 rfl) ?_
              refine z_bipush E dX6_copy_79 (by decide +kernel) ?_
              refine z_callV (As := [.int (i32 (-14))]) (rest := []) (n := 1) E X (lM_0 C cA am S U) rfl (m_finds l D cA B0 C am S U (-14)) gX6_copy_X6_finds rfl (by decide +kernel) ⟨by decide, by decide⟩ rfl hl.1 rfl (Nat.le_of_ble_eq_true rfl) dX6_copy_81 ⟨by decide, by decide⟩ X.1 0 0 ⟨rfl, rfl⟩ (fun v H locs hv hS_25 => ?_)
              obtain ⟨rfl, hw⟩ := hv
              replace X : zX D B0 (zj C (layM cA am (zs S 27 0 (S 27 0 + 1)) U)) s.heap H locs := ⟨hw, hS_25⟩
              have ef : fCopy S (q : Int) x2 (r : Int) x4 x5 = (-14, zs S 27 0 (S 27 0 + 1)) := by
                unfold fCopy fFind
                try simp only [Int.toNat_natCast]
                repeat' split
                all_goals first | rfl | (exfalso; omega)
              exact z_ret E X hQ (⟨(congrArg (fun w => some (Value.int (i32 w.1))) ef).symm, U, by rw [ef]; exact MC_k (S := S) rfl rfl rfl rfl rfl hC, by rw [ef]; exact X.1⟩) dX6_copy_84
          · refine lv_aload_n E.1 E.2.1 dX6_copy_66 rfl (lv_at hl 0 rfl) ?_
            refine z_bipush E dX6_copy_67 (by decide +kernel) ?_
            refine z_callV (As := [.int (i32 (-13))]) (rest := []) (n := 1) E X (lM_0 C cA am S U) rfl (m_finds l D cA B0 C am S U (-13)) gX6_copy_X6_finds rfl (by decide +kernel) ⟨by decide, by decide⟩ rfl hl.1 rfl (Nat.le_of_ble_eq_true rfl) dX6_copy_69 ⟨by decide, by decide⟩ X.1 0 0 ⟨rfl, rfl⟩ (fun v H locs hv hS_26 => ?_)
            obtain ⟨rfl, hw⟩ := hv
            replace X : zX D B0 (zj C (layM cA am (zs S 27 0 (S 27 0 + 1)) U)) s.heap H locs := ⟨hw, hS_26⟩
            have ef : fCopy S (q : Int) x2 (r : Int) x4 x5 = (-13, zs S 27 0 (S 27 0 + 1)) := by
              unfold fCopy fFind
              try simp only [Int.toNat_natCast]
              repeat' split
              all_goals first | rfl | (exfalso; omega)
            exact z_ret E X hQ (⟨(congrArg (fun w => some (Value.int (i32 w.1))) ef).symm, U, by rw [ef]; exact MC_k (S := S) rfl rfl rfl rfl rfl hC, by rw [ef]; exact X.1⟩) dX6_copy_72
        · refine lv_aload_n E.1 E.2.1 dX6_copy_44 rfl (lv_at hl 0 rfl) ?_
          refine z_bipush E dX6_copy_45 (by decide +kernel) ?_
          refine z_callV (As := [.int (i32 (-11))]) (rest := []) (n := 1) E X (lM_0 C cA am S U) rfl (m_finds l D cA B0 C am S U (-11)) gX6_copy_X6_finds rfl (by decide +kernel) ⟨by decide, by decide⟩ rfl hl.1 rfl (Nat.le_of_ble_eq_true rfl) dX6_copy_47 ⟨by decide, by decide⟩ X.1 0 0 ⟨rfl, rfl⟩ (fun v H locs hv hS_27 => ?_)
          obtain ⟨rfl, hw⟩ := hv
          replace X : zX D B0 (zj C (layM cA am (zs S 27 0 (S 27 0 + 1)) U)) s.heap H locs := ⟨hw, hS_27⟩
          have ef : fCopy S (q : Int) x2 (r : Int) x4 x5 = (-11, zs S 27 0 (S 27 0 + 1)) := by
            unfold fCopy fFind
            try simp only [Int.toNat_natCast]
            repeat' split
            all_goals first | rfl | (exfalso; omega)
          exact z_ret E X hQ (⟨(congrArg (fun w => some (Value.int (i32 w.1))) ef).symm, U, by rw [ef]; exact MC_k (S := S) rfl rfl rfl rfl rfl hC, by rw [ef]; exact X.1⟩) dX6_copy_50
    · refine lv_aload_n E.1 E.2.1 dX6_copy_19 rfl (lv_at hl 0 rfl) ?_
      refine z_bipush E dX6_copy_20 (by decide +kernel) ?_
      refine z_callV (As := [.int (i32 (-12))]) (rest := []) (n := 1) E X (lM_0 C cA am S U) rfl (m_finds l D cA B0 C am S U (-12)) gX6_copy_X6_finds rfl (by decide +kernel) ⟨by decide, by decide⟩ rfl hl.1 rfl (Nat.le_of_ble_eq_true rfl) dX6_copy_22 ⟨by decide, by decide⟩ X.1 0 0 ⟨rfl, rfl⟩ (fun v H locs hv hS_28 => ?_)
      obtain ⟨rfl, hw⟩ := hv
      replace X : zX D B0 (zj C (layM cA am (zs S 27 0 (S 27 0 + 1)) U)) s.heap H locs := ⟨hw, hS_28⟩
      have ef : fCopy S x1 x2 x3 x4 x5 = (-12, zs S 27 0 (S 27 0 + 1)) := by
        unfold fCopy fFind
        try simp only [Int.toNat_natCast]
        repeat' split
        all_goals first | rfl | (exfalso; omega)
      exact z_ret E X hQ (⟨(congrArg (fun w => some (Value.int (i32 w.1))) ef).symm, U, by rw [ef]; exact MC_k (S := S) rfl rfl rfl rfl rfl hC, by rw [ef]; exact X.1⟩) dX6_copy_25

abbrev rX6_at : Room := { frames := 2, cells := 0, slots := 0, locals := 45 }
set_option maxHeartbeats 4000000 in
set_option maxRecDepth 100000 in
theorem M_at (l : Launch) (D : va_G) (cA : Nat → ClassId) (B0 : Nat) (C : zL) (am : Nat → Nat) (S U : zS) (hI : SI S) (hC : MC S U) (x1 x2 : Int) (hx1 : zr x1) (hx2 : zr x2) : zM l yX6_at wsX6_at rX6_at [.ref (am 0), .int (i32 x1), .int (i32 x2)] D cA B0 (zW D B0 (zj C (layM cA am S U))) (fun v H => v = some (.int (i32 (fAt S x1 x2).1)) ∧ ∃ U : zS, MC (fAt S x1 x2).2 U ∧ zW D B0 (zj C (layM cA am (fAt S x1 x2).2 U)) H) := by
  refine z_met (cc := cX6_at) (maxL := 3) (ret := (some .int)) (by decide) rfl (Nat.le_of_ble_eq_true rfl) ?_
  intro p e s m args below meth c ls Q hQ E hP hB hS hl
  have hl : lv_has ls 3 [(0, .ref (am 0)), (1, .int (i32 x1)), (2, .int (i32 x2))] := hl
  have iX6 : ∀ w ∈ u_ws RX6 TX6 28, w ∈ wsX6_at := by decide +kernel
  have X : zX D B0 (zj C (layM cA am S U)) s.heap s.heap [] := ⟨hP, hS⟩
  have hI0 := hI.1
  unfold SI0 at hI0
  obtain ⟨b1, b2, b3, b4, b5, b8, b17, b19, b7⟩ := hI0
  unfold zr at hx1 hx2
  refine lv_aload_n E.1 E.2.1 dX6_at_0 rfl (lv_at hl 0 rfl) ?_
  refine z_iconst E dX6_at_1 ?_
  refine z_put E X (lM_0 C cA am S U) rfl iX6 tyX6 tyX6_ok nmX6 0 (by decide) (by decide +kernel) rfl rfl rfl (Nat.le_of_ble_eq_true rfl) dX6_at_2 (fun H locs X => ?_)
  have X := mp_0 X
  have hC : MC S (zs U 0 0 0) := MC_own hC
  generalize zs U 0 0 0 = U at X hC
  refine lv_iload_n E.1 E.2.1 dX6_at_5 rfl (lv_at hl 1 rfl) ?_
  refine z_callJ (As := [.int (i32 x1)]) (rest := []) (n := 1) E X (c_isSheet l D cA B0 _ x1 ⟨by omega, by omega⟩) gX6_at_X6_isSheet rfl (by decide +kernel) ⟨by decide, by decide⟩ rfl hl.1 rfl (Nat.le_of_ble_eq_true rfl) dX6_at_6 ⟨by decide, by decide⟩ rfl 0 0 ⟨rfl, rfl⟩ (fun v H locs hv hS_1 => ?_)
  obtain ⟨hH, z_2, rfl, ez_2⟩ := hv
  subst hH
  replace X := X.same hS_1
  refine z_fne E 19 ⟨by omega, by omega⟩ dX6_at_9 (by decide) (fun h9_3 => ?_) (fun h9_3 => ?_)
  · obtain ⟨q, rfl⟩ : ∃ q : Nat, x1 = (q : Int) := ⟨x1.toNat, by omega⟩
    have h4 := hI.2.2.2.2.1.1 q (by omega)
    refine lv_aload_n E.1 E.2.1 dX6_at_19 rfl (lv_at hl 0 rfl) ?_
    refine z_get E X (lM_0 C cA am S U) rfl iX6 23 (by decide) (by decide +kernel) (v := .ref (am 23)) rfl dX6_at_20 ?_
    refine lv_iload_n E.1 E.2.1 dX6_at_23 rfl (lv_at hl 1 rfl) ?_
    refine z_iald E X (lM_23 C cA am S U) q (by omega) (by omega) (by decide) dX6_at_24 ?_
    refine z_fge E 35 ⟨by omega, by omega⟩ dX6_at_25 (by decide) (fun h25_4 => ?_) (fun h25_4 => ?_)
    · refine lv_iload_n E.1 E.2.1 dX6_at_35 rfl (lv_at hl 2 rfl) ?_
      refine z_i2l E ⟨by omega, by omega⟩ dX6_at_36 ?_
      refine z_lconst (z := 0) E dX6_at_37 (by decide +kernel) ?_
      refine lv_aload_n E.1 E.2.1 dX6_at_38 rfl (lv_at hl 0 rfl) ?_
      refine z_get E X (lM_0 C cA am S U) rfl iX6 23 (by decide) (by decide +kernel) (v := .ref (am 23)) rfl dX6_at_39 ?_
      refine lv_iload_n E.1 E.2.1 dX6_at_42 rfl (lv_at hl 1 rfl) ?_
      refine z_iald E X (lM_23 C cA am S U) q (by omega) (by omega) (by decide) dX6_at_43 ?_
      refine z_iconst E dX6_at_44 ?_
      refine z_isub E dX6_at_45 ?_
      refine z_i2l E ⟨by omega, by omega⟩ dX6_at_46 ?_
      refine z_callJ (As := [.long (i64 x2), .long (i64 0), .long (i64 ((S 23 q) - 1))]) (rest := []) (n := 3) E X (c_in l D cA B0 _ x2 0 ((S 23 q) - 1) ⟨by omega, by omega⟩ ⟨by omega, by omega⟩ ⟨by omega, by omega⟩) gX6_at_X6_in rfl (by decide +kernel) ⟨by decide, by decide⟩ rfl hl.1 rfl (Nat.le_of_ble_eq_true rfl) dX6_at_47 ⟨by decide, by decide⟩ rfl 0 0 ⟨rfl, rfl⟩ (fun v H locs hv hS_5 => ?_)
      obtain ⟨hH, z_6, rfl, ez_6⟩ := hv
      subst hH
      replace X := X.same hS_5
      refine z_feq E 67 ⟨by omega, by omega⟩ dX6_at_50 (by decide) (fun h50_7 => ?_) (fun h50_7 => ?_)
      · refine lv_aload_n E.1 E.2.1 dX6_at_67 rfl (lv_at hl 0 rfl) ?_
        refine z_bipush E dX6_at_68 (by decide +kernel) ?_
        refine z_callV (As := [.int (i32 (-12))]) (rest := []) (n := 1) E X (lM_0 C cA am S U) rfl (m_finds l D cA B0 C am S U (-12)) gX6_at_X6_finds rfl (by decide +kernel) ⟨by decide, by decide⟩ rfl hl.1 rfl (Nat.le_of_ble_eq_true rfl) dX6_at_70 ⟨by decide, by decide⟩ X.1 0 0 ⟨rfl, rfl⟩ (fun v H locs hv hS_8 => ?_)
        obtain ⟨rfl, hw⟩ := hv
        replace X : zX D B0 (zj C (layM cA am (zs S 27 0 (S 27 0 + 1)) U)) s.heap H locs := ⟨hw, hS_8⟩
        have ef : fAt S (q : Int) x2 = (-12, zs S 27 0 (S 27 0 + 1)) := by
          unfold fAt fFind
          try simp only [Int.toNat_natCast]
          repeat' split
          all_goals first | rfl | (exfalso; omega)
        exact z_ret E X hQ (⟨(congrArg (fun w => some (Value.int (i32 w.1))) ef).symm, U, by rw [ef]; exact MC_cong (S := S) rfl rfl rfl (Int.le_refl _) (fun _ _ => rfl) hC, by rw [ef]; exact X.1⟩) dX6_at_73
      · obtain ⟨i, rfl⟩ : ∃ i : Nat, x2 = (i : Int) := ⟨x2.toNat, by omega⟩
        refine lv_aload_n E.1 E.2.1 dX6_at_53 rfl (lv_at hl 0 rfl) ?_
        refine z_get E X (lM_0 C cA am S U) rfl iX6 25 (by decide) (by decide +kernel) (v := .ref (am 25)) rfl dX6_at_54 ?_
        refine z_bipush E dX6_at_57 (by decide +kernel) ?_
        refine lv_iload_n E.1 E.2.1 dX6_at_59 rfl (lv_at hl 1 rfl) ?_
        refine z_imul E dX6_at_60 ?_
        refine lv_iload_n E.1 E.2.1 dX6_at_61 rfl (lv_at hl 2 rfl) ?_
        refine z_iadd E dX6_at_62 ?_
        refine z_iald E X (lM_25 C cA am S U) ((64 * q) + i) (by omega) (by omega) (by decide) dX6_at_63 ?_
        refine lv_goto (tgt := 73) E.1 E.2.1 dX6_at_64 (by decide) ?_
        have ef : fAt S (q : Int) (i : Int) = (S 25 ((64 * q) + i), S) := by
          unfold fAt fFind
          try simp only [Int.toNat_natCast]
          repeat' split
          all_goals first | rfl | (exfalso; omega)
        exact z_ret E X hQ (⟨(congrArg (fun w => some (Value.int (i32 w.1))) ef).symm, U, by rw [ef]; exact hC, by rw [ef]; exact X.1⟩) dX6_at_73
    · refine lv_aload_n E.1 E.2.1 dX6_at_28 rfl (lv_at hl 0 rfl) ?_
      refine z_bipush E dX6_at_29 (by decide +kernel) ?_
      refine z_callV (As := [.int (i32 (-11))]) (rest := []) (n := 1) E X (lM_0 C cA am S U) rfl (m_finds l D cA B0 C am S U (-11)) gX6_at_X6_finds rfl (by decide +kernel) ⟨by decide, by decide⟩ rfl hl.1 rfl (Nat.le_of_ble_eq_true rfl) dX6_at_31 ⟨by decide, by decide⟩ X.1 0 0 ⟨rfl, rfl⟩ (fun v H locs hv hS_9 => ?_)
      obtain ⟨rfl, hw⟩ := hv
      replace X : zX D B0 (zj C (layM cA am (zs S 27 0 (S 27 0 + 1)) U)) s.heap H locs := ⟨hw, hS_9⟩
      have ef : fAt S (q : Int) x2 = (-11, zs S 27 0 (S 27 0 + 1)) := by
        unfold fAt fFind
        try simp only [Int.toNat_natCast]
        repeat' split
        all_goals first | rfl | (exfalso; omega)
      exact z_ret E X hQ (⟨(congrArg (fun w => some (Value.int (i32 w.1))) ef).symm, U, by rw [ef]; exact MC_cong (S := S) rfl rfl rfl (Int.le_refl _) (fun _ _ => rfl) hC, by rw [ef]; exact X.1⟩) dX6_at_34
  · refine lv_aload_n E.1 E.2.1 dX6_at_12 rfl (lv_at hl 0 rfl) ?_
    refine z_bipush E dX6_at_13 (by decide +kernel) ?_
    refine z_callV (As := [.int (i32 (-12))]) (rest := []) (n := 1) E X (lM_0 C cA am S U) rfl (m_finds l D cA B0 C am S U (-12)) gX6_at_X6_finds rfl (by decide +kernel) ⟨by decide, by decide⟩ rfl hl.1 rfl (Nat.le_of_ble_eq_true rfl) dX6_at_15 ⟨by decide, by decide⟩ X.1 0 0 ⟨rfl, rfl⟩ (fun v H locs hv hS_10 => ?_)
    obtain ⟨rfl, hw⟩ := hv
    replace X : zX D B0 (zj C (layM cA am (zs S 27 0 (S 27 0 + 1)) U)) s.heap H locs := ⟨hw, hS_10⟩
    have ef : fAt S x1 x2 = (-12, zs S 27 0 (S 27 0 + 1)) := by
      unfold fAt fFind
      try simp only [Int.toNat_natCast]
      repeat' split
      all_goals first | rfl | (exfalso; omega)
    exact z_ret E X hQ (⟨(congrArg (fun w => some (Value.int (i32 w.1))) ef).symm, U, by rw [ef]; exact MC_cong (S := S) rfl rfl rfl (Int.le_refl _) (fun _ _ => rfl) hC, by rw [ef]; exact X.1⟩) dX6_at_18

abbrev rX6_peak : Room := { frames := 2, cells := 0, slots := 0, locals := 45 }
set_option maxHeartbeats 4000000 in
set_option maxRecDepth 100000 in
theorem M_peak (l : Launch) (D : va_G) (cA : Nat → ClassId) (B0 : Nat) (C : zL) (am : Nat → Nat) (S U : zS) (hI : SI S) (hC : MC S U) (x1 : Int) (hx1 : zr x1) : zM l yX6_peak wsX6_peak rX6_peak [.ref (am 0), .int (i32 x1)] D cA B0 (zW D B0 (zj C (layM cA am S U))) (fun v H => v = some (.int (i32 (fPeak S x1).1)) ∧ ∃ U : zS, MC (fPeak S x1).2 U ∧ zW D B0 (zj C (layM cA am (fPeak S x1).2 U)) H) := by
  refine z_met (cc := cX6_peak) (maxL := 8) (ret := (some .int)) (by decide) rfl (Nat.le_of_ble_eq_true rfl) ?_
  intro p e s m args below meth c ls Q hQ E hP hB hS hl
  have hl : lv_has ls 8 [(0, .ref (am 0)), (1, .int (i32 x1))] := hl
  have iX6 : ∀ w ∈ u_ws RX6 TX6 28, w ∈ wsX6_peak := by decide +kernel
  have X : zX D B0 (zj C (layM cA am S U)) s.heap s.heap [] := ⟨hP, hS⟩
  have hI0 := hI.1
  unfold SI0 at hI0
  obtain ⟨b1, b2, b3, b4, b5, b8, b17, b19, b7⟩ := hI0
  unfold zr at hx1
  refine lv_aload_n E.1 E.2.1 dX6_peak_0 rfl (lv_at hl 0 rfl) ?_
  refine z_iconst E dX6_peak_1 ?_
  refine z_put E X (lM_0 C cA am S U) rfl iX6 tyX6 tyX6_ok nmX6 0 (by decide) (by decide +kernel) rfl rfl rfl (Nat.le_of_ble_eq_true rfl) dX6_peak_2 (fun H locs X => ?_)
  have X := mp_0 X
  have hC : MC S (zs U 0 0 0) := MC_own hC
  generalize zs U 0 0 0 = U at X hC
  refine lv_iload_n E.1 E.2.1 dX6_peak_5 rfl (lv_at hl 1 rfl) ?_
  refine z_callJ (As := [.int (i32 x1)]) (rest := []) (n := 1) E X (c_isSheet l D cA B0 _ x1 ⟨by omega, by omega⟩) gX6_peak_X6_isSheet rfl (by decide +kernel) ⟨by decide, by decide⟩ rfl hl.1 rfl (Nat.le_of_ble_eq_true rfl) dX6_peak_6 ⟨by decide, by decide⟩ rfl 0 0 ⟨rfl, rfl⟩ (fun v H locs hv hS_1 => ?_)
  obtain ⟨hH, z_2, rfl, ez_2⟩ := hv
  subst hH
  replace X := X.same hS_1
  refine z_fne E 19 ⟨by omega, by omega⟩ dX6_peak_9 (by decide) (fun h9_3 => ?_) (fun h9_3 => ?_)
  · obtain ⟨q, rfl⟩ : ∃ q : Nat, x1 = (q : Int) := ⟨x1.toNat, by omega⟩
    have h4 := hI.2.2.2.2.1.1 q (by omega)
    refine lv_aload_n E.1 E.2.1 dX6_peak_19 rfl (lv_at hl 0 rfl) ?_
    refine z_get E X (lM_0 C cA am S U) rfl iX6 23 (by decide) (by decide +kernel) (v := .ref (am 23)) rfl dX6_peak_20 ?_
    refine lv_iload_n E.1 E.2.1 dX6_peak_23 rfl (lv_at hl 1 rfl) ?_
    refine z_iald E X (lM_23 C cA am S U) q (by omega) (by omega) (by decide) dX6_peak_24 ?_
    refine z_fge E 35 ⟨by omega, by omega⟩ dX6_peak_25 (by decide) (fun h25_4 => ?_) (fun h25_4 => ?_)
    · refine z_ldc (v := (-99999)) (z := -99999) E (by decide +kernel) (by decide +kernel) dX6_peak_35 ?_
      refine z_top (pkb S q 0) (rfl) ?_
      refine lv_istore_n (lv' := [(2, .int (i32 (pkb S q 0))), (0, .ref (am 0)), (1, .int (i32 (q : Int)))]) E.1 E.2.1 dX6_peak_37 rfl hl (by decide) rfl (fun ls hl => ?_)
      refine z_ldc2 (v := (-1)) (z := -1) E (by decide +kernel) (by decide +kernel) dX6_peak_38 ?_
      refine z_topl (pkm S q 0) (rfl) ?_
      refine lv_lstore_n (lv' := [(3, .long (i64 (pkm S q 0))), (2, .int (i32 (pkb S q 0))), (0, .ref (am 0)), (1, .int (i32 (q : Int)))]) E.1 E.2.1 dX6_peak_41 rfl hl (by decide) rfl (fun ls hl => ?_)
      refine z_iconst E dX6_peak_42 ?_
      refine z_top (0 : Int) (rfl) ?_
      refine lv_istore (lv' := [(5, .int (i32 (0 : Int))), (3, .long (i64 (pkm S q 0))), (2, .int (i32 (pkb S q 0))), (0, .ref (am 0)), (1, .int (i32 (q : Int)))]) E.1 E.2.1 dX6_peak_43 hl (by decide) rfl (fun ls hl => ?_)
      have key45 : ∀ (N : Nat) (i : Nat) (H : Heap) (locs : List Loc) (ls : Array Slot), ((S 23 q).toNat - i) < N → ((i : Int) ≤ S 23 q) → zX D B0 (zj C (layM cA am S U)) s.heap H locs → lv_has ls 8 [(0, .ref (am 0)), (1, .int (i32 (q : Int))), (2, .int (i32 (pkb S q i))), (3, .long (i64 (pkm S q i))), (5, .int (i32 (i : Int)))] → W p l e rX6_peak s m args below meth c H locs 0 0 Q (F0 m 45 ls []) := by
        intro N
        induction N with
        | zero => intros; omega
        | succ N ih45 =>
          intro i H locs ls hN hi X hl
          refine lv_iload E.1 E.2.1 dX6_peak_45 (lv_at hl 4 rfl) ?_
          refine lv_aload_n E.1 E.2.1 dX6_peak_47 rfl (lv_at hl 0 rfl) ?_
          refine z_get E X (lM_0 C cA am S U) rfl iX6 23 (by decide) (by decide +kernel) (v := .ref (am 23)) rfl dX6_peak_48 ?_
          refine lv_iload_n E.1 E.2.1 dX6_peak_51 rfl (lv_at hl 1 rfl) ?_
          refine z_iald E X (lM_23 C cA am S U) q (by omega) (by omega) (by decide) dX6_peak_52 ?_
          refine z_cge E 107 ⟨by omega, by omega⟩ ⟨by omega, by omega⟩ dX6_peak_53 (by decide) (fun h53_5 => ?_) (fun h53_5 => ?_)
          · refine lv_iload_n E.1 E.2.1 dX6_peak_107 rfl (lv_at hl 2 rfl) ?_
            have ef : fPeak S (q : Int) = (pkb S q i, S) := by
              unfold fPeak
              simp only [Int.toNat_natCast]
              rw [if_neg (by omega), if_neg (by omega), show (S 23 q).toNat = i by omega]
            exact z_ret E X hQ (⟨(congrArg (fun w => some (Value.int (i32 w.1))) ef).symm, U, by rw [ef]; exact hC, by rw [ef]; exact X.1⟩) dX6_peak_108
          · have hz1 := hI.2.2.2.2.1.2 (64 * q + i)
            unfold zr at hz1
            have hpm := pkm_rng (q := q) hI i
            refine lv_aload_n E.1 E.2.1 dX6_peak_56 rfl (lv_at hl 0 rfl) ?_
            refine z_get E X (lM_0 C cA am S U) rfl iX6 25 (by decide) (by decide +kernel) (v := .ref (am 25)) rfl dX6_peak_57 ?_
            refine z_bipush E dX6_peak_60 (by decide +kernel) ?_
            refine lv_iload_n E.1 E.2.1 dX6_peak_62 rfl (lv_at hl 1 rfl) ?_
            refine z_imul E dX6_peak_63 ?_
            refine lv_iload E.1 E.2.1 dX6_peak_64 (lv_at hl 4 rfl) ?_
            refine z_iadd E dX6_peak_66 ?_
            refine z_iald E X (lM_25 C cA am S U) ((64 * q) + i) (by omega) (by omega) (by decide) dX6_peak_67 ?_
            refine z_i2l E ⟨by omega, by omega⟩ dX6_peak_68 ?_
            refine lv_lstore (lv' := [(6, .long (i64 (S 25 ((64 * q) + i)))), (0, .ref (am 0)), (1, .int (i32 (q : Int))), (2, .int (i32 (pkb S q i))), (3, .long (i64 (pkm S q i))), (5, .int (i32 (i : Int)))]) E.1 E.2.1 dX6_peak_69 hl (by decide) rfl (fun ls hl => ?_)
            refine lv_lload E.1 E.2.1 dX6_peak_71 (lv_at hl 0 rfl) ?_
            refine z_lconst (z := 0) E dX6_peak_73 (by decide +kernel) ?_
            refine z_lcmp E ⟨by omega, by omega⟩ ⟨by omega, by omega⟩ dX6_peak_74 (fun z_6 hrz_6 hlz_6 hez_6 => ?_)
            unfold zr at hrz_6
            refine z_fge E 84 ⟨by omega, by omega⟩ dX6_peak_75 (by decide) (fun h75_7 => ?_) (fun h75_7 => ?_)
            · refine lv_lload E.1 E.2.1 dX6_peak_84 (lv_at hl 0 rfl) ?_
              refine z_topl (zabs (S 25 (64 * q + i))) (by unfold zabs; rw [if_pos (by omega)]) ?_
              have hza : 0 ≤ zabs (S 25 (64 * q + i)) ∧ zabs (S 25 (64 * q + i)) ≤ 2147483648 := by unfold zabs; split <;> omega
              refine lv_lstore (lv' := [(6, .long (i64 (zabs (S 25 (64 * q + i))))), (0, .ref (am 0)), (1, .int (i32 (q : Int))), (2, .int (i32 (pkb S q i))), (3, .long (i64 (pkm S q i))), (5, .int (i32 (i : Int)))]) E.1 E.2.1 dX6_peak_86 hl (by decide) rfl (fun ls hl => ?_)
              refine lv_lload E.1 E.2.1 dX6_peak_88 (lv_at hl 0 rfl) ?_
              refine lv_lload_n E.1 E.2.1 dX6_peak_90 rfl (lv_at hl 4 rfl) ?_
              refine z_lcmp E ⟨by omega, by omega⟩ ⟨by omega, by omega⟩ dX6_peak_91 (fun z_8 hrz_8 hlz_8 hez_8 => ?_)
              unfold zr at hrz_8
              refine z_fle E 101 ⟨by omega, by omega⟩ dX6_peak_92 (by decide) (fun h92_9 => ?_) (fun h92_9 => ?_)
              · have ek1 : pkb S q (i + 1) = pkb S q i := by rw [pkb_S, if_neg (by omega)]
                have ek2 : pkm S q (i + 1) = pkm S q i := by rw [pkm_S, if_neg (by omega)]
                have hl : lv_has ls 8 [(6, .long (i64 (zabs (S 25 (64 * q + i))))), (0, .ref (am 0)), (1, .int (i32 (q : Int))), (2, .int (i32 (pkb S q (i + 1)))), (3, .long (i64 (pkm S q (i + 1)))), (5, .int (i32 (i : Int)))] := by rw [ek1, ek2]; exact hl
                refine z_iinc (lv' := [(5, .int (i32 ((i + 1 : Nat) : Int))), (6, .long (i64 (zabs (S 25 (64 * q + i))))), (0, .ref (am 0)), (1, .int (i32 (q : Int))), (2, .int (i32 (pkb S q (i + 1)))), (3, .long (i64 (pkm S q (i + 1))))]) E dX6_peak_101 hl (k := 5) rfl (by decide) rfl (fun ls hl => ?_)
                refine lv_goto (tgt := 45) E.1 E.2.1 dX6_peak_104 (by decide) ?_
                exact ih45 (i + 1) _ _ _ (by omega) (by omega) X (lv_sub hl [2, 3, 4, 5, 0] rfl)
              · refine lv_iload E.1 E.2.1 dX6_peak_95 (lv_at hl 5 rfl) ?_
                refine lv_istore_n (lv' := [(2, .int (i32 (i : Int))), (6, .long (i64 (zabs (S 25 (64 * q + i))))), (0, .ref (am 0)), (1, .int (i32 (q : Int))), (3, .long (i64 (pkm S q i))), (5, .int (i32 (i : Int)))]) E.1 E.2.1 dX6_peak_97 rfl hl (by decide) rfl (fun ls hl => ?_)
                refine lv_lload E.1 E.2.1 dX6_peak_98 (lv_at hl 1 rfl) ?_
                refine lv_lstore_n (lv' := [(3, .long (i64 (zabs (S 25 (64 * q + i))))), (2, .int (i32 (i : Int))), (6, .long (i64 (zabs (S 25 (64 * q + i))))), (0, .ref (am 0)), (1, .int (i32 (q : Int))), (5, .int (i32 (i : Int)))]) E.1 E.2.1 dX6_peak_100 rfl hl (by decide) rfl (fun ls hl => ?_)
                have ek1 : pkb S q (i + 1) = (i : Int) := by rw [pkb_S, if_pos (by omega)]
                have ek2 : pkm S q (i + 1) = zabs (S 25 (64 * q + i)) := by rw [pkm_S, if_pos (by omega)]
                have hl : lv_has ls 8 [(3, .long (i64 (pkm S q (i + 1)))), (2, .int (i32 (pkb S q (i + 1)))), (6, .long (i64 (zabs (S 25 (64 * q + i))))), (0, .ref (am 0)), (1, .int (i32 (q : Int))), (5, .int (i32 (i : Int)))] := by rw [ek1, ek2]; exact hl
                refine z_iinc (lv' := [(5, .int (i32 ((i + 1 : Nat) : Int))), (3, .long (i64 (pkm S q (i + 1)))), (2, .int (i32 (pkb S q (i + 1)))), (6, .long (i64 (zabs (S 25 (64 * q + i))))), (0, .ref (am 0)), (1, .int (i32 (q : Int)))]) E dX6_peak_101 hl (k := 5) rfl (by decide) rfl (fun ls hl => ?_)
                refine lv_goto (tgt := 45) E.1 E.2.1 dX6_peak_104 (by decide) ?_
                exact ih45 (i + 1) _ _ _ (by omega) (by omega) X (lv_sub hl [4, 5, 2, 1, 0] rfl)
            · refine lv_lload E.1 E.2.1 dX6_peak_78 (lv_at hl 0 rfl) ?_
              refine z_lneg E dX6_peak_80 ?_
              refine lv_goto (tgt := 86) E.1 E.2.1 dX6_peak_81 (by decide) ?_
              refine z_topl (zabs (S 25 (64 * q + i))) (by unfold zabs; rw [if_neg (by omega)]) ?_
              have hza : 0 ≤ zabs (S 25 (64 * q + i)) ∧ zabs (S 25 (64 * q + i)) ≤ 2147483648 := by unfold zabs; split <;> omega
              refine lv_lstore (lv' := [(6, .long (i64 (zabs (S 25 (64 * q + i))))), (0, .ref (am 0)), (1, .int (i32 (q : Int))), (2, .int (i32 (pkb S q i))), (3, .long (i64 (pkm S q i))), (5, .int (i32 (i : Int)))]) E.1 E.2.1 dX6_peak_86 hl (by decide) rfl (fun ls hl => ?_)
              refine lv_lload E.1 E.2.1 dX6_peak_88 (lv_at hl 0 rfl) ?_
              refine lv_lload_n E.1 E.2.1 dX6_peak_90 rfl (lv_at hl 4 rfl) ?_
              refine z_lcmp E ⟨by omega, by omega⟩ ⟨by omega, by omega⟩ dX6_peak_91 (fun z_10 hrz_10 hlz_10 hez_10 => ?_)
              unfold zr at hrz_10
              refine z_fle E 101 ⟨by omega, by omega⟩ dX6_peak_92 (by decide) (fun h92_11 => ?_) (fun h92_11 => ?_)
              · have ek1 : pkb S q (i + 1) = pkb S q i := by rw [pkb_S, if_neg (by omega)]
                have ek2 : pkm S q (i + 1) = pkm S q i := by rw [pkm_S, if_neg (by omega)]
                have hl : lv_has ls 8 [(6, .long (i64 (zabs (S 25 (64 * q + i))))), (0, .ref (am 0)), (1, .int (i32 (q : Int))), (2, .int (i32 (pkb S q (i + 1)))), (3, .long (i64 (pkm S q (i + 1)))), (5, .int (i32 (i : Int)))] := by rw [ek1, ek2]; exact hl
                refine z_iinc (lv' := [(5, .int (i32 ((i + 1 : Nat) : Int))), (6, .long (i64 (zabs (S 25 (64 * q + i))))), (0, .ref (am 0)), (1, .int (i32 (q : Int))), (2, .int (i32 (pkb S q (i + 1)))), (3, .long (i64 (pkm S q (i + 1))))]) E dX6_peak_101 hl (k := 5) rfl (by decide) rfl (fun ls hl => ?_)
                refine lv_goto (tgt := 45) E.1 E.2.1 dX6_peak_104 (by decide) ?_
                exact ih45 (i + 1) _ _ _ (by omega) (by omega) X (lv_sub hl [2, 3, 4, 5, 0] rfl)
              · refine lv_iload E.1 E.2.1 dX6_peak_95 (lv_at hl 5 rfl) ?_
                refine lv_istore_n (lv' := [(2, .int (i32 (i : Int))), (6, .long (i64 (zabs (S 25 (64 * q + i))))), (0, .ref (am 0)), (1, .int (i32 (q : Int))), (3, .long (i64 (pkm S q i))), (5, .int (i32 (i : Int)))]) E.1 E.2.1 dX6_peak_97 rfl hl (by decide) rfl (fun ls hl => ?_)
                refine lv_lload E.1 E.2.1 dX6_peak_98 (lv_at hl 1 rfl) ?_
                refine lv_lstore_n (lv' := [(3, .long (i64 (zabs (S 25 (64 * q + i))))), (2, .int (i32 (i : Int))), (6, .long (i64 (zabs (S 25 (64 * q + i))))), (0, .ref (am 0)), (1, .int (i32 (q : Int))), (5, .int (i32 (i : Int)))]) E.1 E.2.1 dX6_peak_100 rfl hl (by decide) rfl (fun ls hl => ?_)
                have ek1 : pkb S q (i + 1) = (i : Int) := by rw [pkb_S, if_pos (by omega)]
                have ek2 : pkm S q (i + 1) = zabs (S 25 (64 * q + i)) := by rw [pkm_S, if_pos (by omega)]
                have hl : lv_has ls 8 [(3, .long (i64 (pkm S q (i + 1)))), (2, .int (i32 (pkb S q (i + 1)))), (6, .long (i64 (zabs (S 25 (64 * q + i))))), (0, .ref (am 0)), (1, .int (i32 (q : Int))), (5, .int (i32 (i : Int)))] := by rw [ek1, ek2]; exact hl
                refine z_iinc (lv' := [(5, .int (i32 ((i + 1 : Nat) : Int))), (3, .long (i64 (pkm S q (i + 1)))), (2, .int (i32 (pkb S q (i + 1)))), (6, .long (i64 (zabs (S 25 (64 * q + i))))), (0, .ref (am 0)), (1, .int (i32 (q : Int)))]) E dX6_peak_101 hl (k := 5) rfl (by decide) rfl (fun ls hl => ?_)
                refine lv_goto (tgt := 45) E.1 E.2.1 dX6_peak_104 (by decide) ?_
                exact ih45 (i + 1) _ _ _ (by omega) (by omega) X (lv_sub hl [4, 5, 2, 1, 0] rfl)
      exact key45 (((S 23 q).toNat - 0) + 1) 0 _ _ _ (by omega) (by omega) X (lv_sub hl [3, 4, 2, 1, 0] rfl)
    · refine lv_aload_n E.1 E.2.1 dX6_peak_28 rfl (lv_at hl 0 rfl) ?_
      refine z_bipush E dX6_peak_29 (by decide +kernel) ?_
      refine z_callV (As := [.int (i32 (-11))]) (rest := []) (n := 1) E X (lM_0 C cA am S U) rfl (m_finds l D cA B0 C am S U (-11)) gX6_peak_X6_finds rfl (by decide +kernel) ⟨by decide, by decide⟩ rfl hl.1 rfl (Nat.le_of_ble_eq_true rfl) dX6_peak_31 ⟨by decide, by decide⟩ X.1 0 0 ⟨rfl, rfl⟩ (fun v H locs hv hS_12 => ?_)
      obtain ⟨rfl, hw⟩ := hv
      replace X : zX D B0 (zj C (layM cA am (zs S 27 0 (S 27 0 + 1)) U)) s.heap H locs := ⟨hw, hS_12⟩
      have ef : fPeak S (q : Int) = (-11, zs S 27 0 (S 27 0 + 1)) := by
        unfold fPeak fFind
        try simp only [Int.toNat_natCast]
        repeat' split
        all_goals first | rfl | (exfalso; omega)
      exact z_ret E X hQ (⟨(congrArg (fun w => some (Value.int (i32 w.1))) ef).symm, U, by rw [ef]; exact MC_cong (S := S) rfl rfl rfl (Int.le_refl _) (fun _ _ => rfl) hC, by rw [ef]; exact X.1⟩) dX6_peak_34
  · refine lv_aload_n E.1 E.2.1 dX6_peak_12 rfl (lv_at hl 0 rfl) ?_
    refine z_bipush E dX6_peak_13 (by decide +kernel) ?_
    refine z_callV (As := [.int (i32 (-12))]) (rest := []) (n := 1) E X (lM_0 C cA am S U) rfl (m_finds l D cA B0 C am S U (-12)) gX6_peak_X6_finds rfl (by decide +kernel) ⟨by decide, by decide⟩ rfl hl.1 rfl (Nat.le_of_ble_eq_true rfl) dX6_peak_15 ⟨by decide, by decide⟩ X.1 0 0 ⟨rfl, rfl⟩ (fun v H locs hv hS_13 => ?_)
    obtain ⟨rfl, hw⟩ := hv
    replace X : zX D B0 (zj C (layM cA am (zs S 27 0 (S 27 0 + 1)) U)) s.heap H locs := ⟨hw, hS_13⟩
    have ef : fPeak S x1 = (-12, zs S 27 0 (S 27 0 + 1)) := by
      unfold fPeak fFind
      try simp only [Int.toNat_natCast]
      repeat' split
      all_goals first | rfl | (exfalso; omega)
    exact z_ret E X hQ (⟨(congrArg (fun w => some (Value.int (i32 w.1))) ef).symm, U, by rw [ef]; exact MC_cong (S := S) rfl rfl rfl (Int.le_refl _) (fun _ _ => rfl) hC, by rw [ef]; exact X.1⟩) dX6_peak_18

abbrev rX6_total : Room := { frames := 1, cells := 0, slots := 0, locals := 22 }
set_option maxHeartbeats 4000000 in
set_option maxRecDepth 100000 in
theorem M_total (l : Launch) (D : va_G) (cA : Nat → ClassId) (B0 : Nat) (C : zL) (am : Nat → Nat) (S U : zS) (hI : SI S) (hC : MC S U) (x1 : Int) (hx1 : zr x1) : zM l yX6_total wsX6_total rX6_total [.ref (am 0), .int (i32 x1)] D cA B0 (zW D B0 (zj C (layM cA am S U))) (fun v H => v = some (.int (i32 (fTotal S x1).1)) ∧ ∃ U : zS, MC (fTotal S x1).2 U ∧ zW D B0 (zj C (layM cA am (fTotal S x1).2 U)) H) := by
  refine z_met (cc := cX6_total) (maxL := 4) (ret := (some .int)) (by decide) rfl (Nat.le_of_ble_eq_true rfl) ?_
  intro p e s m args below meth c ls Q hQ E hP hB hS hl
  have hl : lv_has ls 4 [(0, .ref (am 0)), (1, .int (i32 x1))] := hl
  have iX6 : ∀ w ∈ u_ws RX6 TX6 28, w ∈ wsX6_total := by decide +kernel
  have X : zX D B0 (zj C (layM cA am S U)) s.heap s.heap [] := ⟨hP, hS⟩
  have hI0 := hI.1
  unfold SI0 at hI0
  obtain ⟨b1, b2, b3, b4, b5, b8, b17, b19, b7⟩ := hI0
  unfold zr at hx1
  refine lv_aload_n E.1 E.2.1 dX6_total_0 rfl (lv_at hl 0 rfl) ?_
  refine z_iconst E dX6_total_1 ?_
  refine z_put E X (lM_0 C cA am S U) rfl iX6 tyX6 tyX6_ok nmX6 0 (by decide) (by decide +kernel) rfl rfl rfl (Nat.le_of_ble_eq_true rfl) dX6_total_2 (fun H locs X => ?_)
  have X := mp_0 X
  have hC : MC S (zs U 0 0 0) := MC_own hC
  generalize zs U 0 0 0 = U at X hC
  refine z_iconst E dX6_total_5 ?_
  refine z_top (sumn (fun q => if S 23 q < 0 then 0 else 1) 0) (rfl) ?_
  refine lv_istore_n (lv' := [(2, .int (i32 (sumn (fun q => if S 23 q < 0 then 0 else 1) 0))), (0, .ref (am 0)), (1, .int (i32 x1))]) E.1 E.2.1 dX6_total_6 rfl hl (by decide) rfl (fun ls hl => ?_)
  refine z_iconst E dX6_total_7 ?_
  refine z_top (0 : Int) (rfl) ?_
  refine lv_istore_n (lv' := [(3, .int (i32 (0 : Int))), (2, .int (i32 (sumn (fun q => if S 23 q < 0 then 0 else 1) 0))), (0, .ref (am 0)), (1, .int (i32 x1))]) E.1 E.2.1 dX6_total_8 rfl hl (by decide) rfl (fun ls hl => ?_)
  have key9 : ∀ (N : Nat) (i : Nat) (H : Heap) (locs : List Loc) (ls : Array Slot), (6 - i) < N → (i ≤ 6) → zX D B0 (zj C (layM cA am S U)) s.heap H locs → lv_has ls 4 [(0, .ref (am 0)), (1, .int (i32 x1)), (2, .int (i32 (sumn (fun q => if S 23 q < 0 then 0 else 1) i))), (3, .int (i32 (i : Int)))] → W p l e rX6_total s m args below meth c H locs 0 0 Q (F0 m 9 ls []) := by
    intro N
    induction N with
    | zero => intros; omega
    | succ N ih9 =>
      intro i H locs ls hN hi X hl
      refine lv_iload_n E.1 E.2.1 dX6_total_9 rfl (lv_at hl 3 rfl) ?_
      refine z_bipush E dX6_total_10 (by decide +kernel) ?_
      refine z_cge E 38 ⟨by omega, by omega⟩ ⟨by omega, by omega⟩ dX6_total_12 (by decide) (fun h12_1 => ?_) (fun h12_1 => ?_)
      · refine lv_iload_n E.1 E.2.1 dX6_total_38 rfl (lv_at hl 1 rfl) ?_
        by_cases ht_2 : x1 = 0
        · subst ht_2
          refine z_tabI E 45 84 dX6_total_39 ⟨by omega, by omega⟩ (by omega) (by omega) (by decide) (by decide) ?_
          refine lv_aload_n E.1 E.2.1 dX6_total_84 rfl (lv_at hl 0 rfl) ?_
          refine z_get E X (lM_0 C cA am S U) rfl iX6 5 (by decide) (by decide +kernel) (v := .int (i32 (S 5 0))) rfl dX6_total_85 ?_
          have ef : fTotal S 0 = (S 5 0, S) := by
            rfl
          exact z_ret E X hQ (⟨(congrArg (fun w => some (Value.int (i32 w.1))) ef).symm, U, by rw [ef]; exact hC, by rw [ef]; exact X.1⟩) dX6_total_88
        by_cases ht_3 : x1 = 1
        · subst ht_3
          refine z_tabI E 50 89 dX6_total_39 ⟨by omega, by omega⟩ (by omega) (by omega) (by decide) (by decide) ?_
          refine lv_aload_n E.1 E.2.1 dX6_total_89 rfl (lv_at hl 0 rfl) ?_
          refine z_callV (As := []) (rest := []) (n := 0) E X (lM_0 C cA am S U) rfl (m_working l D cA B0 C am S U hI.1) gX6_total_X6_working rfl (by decide +kernel) ⟨by decide, by decide⟩ rfl hl.1 rfl (Nat.le_of_ble_eq_true rfl) dX6_total_90 ⟨by decide, by decide⟩ X.1 0 0 ⟨rfl, rfl⟩ (fun v H locs hv hS_4 => ?_)
          obtain ⟨rfl, hw⟩ := hv
          replace X : zX D B0 (zj C (layM cA am S U)) s.heap H locs := ⟨hw, hS_4⟩
          have f_5 := WK_rng (S := S) hI.1
          refine z_top (WK S) rfl ?_
          have ef : fTotal S 1 = (WK S, S) := by
            rfl
          exact z_ret E X hQ (⟨(congrArg (fun w => some (Value.int (i32 w.1))) ef).symm, U, by rw [ef]; exact hC, by rw [ef]; exact X.1⟩) dX6_total_93
        by_cases ht_6 : x1 = 2
        · subst ht_6
          refine z_tabI E 55 94 dX6_total_39 ⟨by omega, by omega⟩ (by omega) (by omega) (by decide) (by decide) ?_
          refine lv_aload_n E.1 E.2.1 dX6_total_94 rfl (lv_at hl 0 rfl) ?_
          refine z_get E X (lM_0 C cA am S U) rfl iX6 8 (by decide) (by decide +kernel) (v := .int (i32 (S 8 0))) rfl dX6_total_95 ?_
          have ef : fTotal S 2 = (S 8 0, S) := by
            rfl
          exact z_ret E X hQ (⟨(congrArg (fun w => some (Value.int (i32 w.1))) ef).symm, U, by rw [ef]; exact hC, by rw [ef]; exact X.1⟩) dX6_total_98
        by_cases ht_7 : x1 = 3
        · subst ht_7
          refine z_tabI E 60 99 dX6_total_39 ⟨by omega, by omega⟩ (by omega) (by omega) (by decide) (by decide) ?_
          refine lv_aload_n E.1 E.2.1 dX6_total_99 rfl (lv_at hl 0 rfl) ?_
          refine z_get E X (lM_0 C cA am S U) rfl iX6 19 (by decide) (by decide +kernel) (v := .int (i32 (S 19 0))) rfl dX6_total_100 ?_
          have ef : fTotal S 3 = (S 19 0, S) := by
            rfl
          exact z_ret E X hQ (⟨(congrArg (fun w => some (Value.int (i32 w.1))) ef).symm, U, by rw [ef]; exact hC, by rw [ef]; exact X.1⟩) dX6_total_103
        by_cases ht_8 : x1 = 4
        · subst ht_8
          refine z_tabI E 65 104 dX6_total_39 ⟨by omega, by omega⟩ (by omega) (by omega) (by decide) (by decide) ?_
          refine lv_aload_n E.1 E.2.1 dX6_total_104 rfl (lv_at hl 0 rfl) ?_
          refine z_get E X (lM_0 C cA am S U) rfl iX6 27 (by decide) (by decide +kernel) (v := .int (i32 (S 27 0))) rfl dX6_total_105 ?_
          have ef : fTotal S 4 = (S 27 0, S) := by
            rfl
          exact z_ret E X hQ (⟨(congrArg (fun w => some (Value.int (i32 w.1))) ef).symm, U, by rw [ef]; exact hC, by rw [ef]; exact X.1⟩) dX6_total_108
        by_cases ht_9 : x1 = 5
        · subst ht_9
          refine z_tabI E 70 109 dX6_total_39 ⟨by omega, by omega⟩ (by omega) (by omega) (by decide) (by decide) ?_
          refine lv_iload_n E.1 E.2.1 dX6_total_109 rfl (lv_at hl 2 rfl) ?_
          have ef : fTotal S 5 = (sumn (fun q => if S 23 q < 0 then 0 else 1) i, S) := by
            unfold fTotal shn
            rw [show i = 6 by omega]
            rfl
          exact z_ret E X hQ (⟨(congrArg (fun w => some (Value.int (i32 w.1))) ef).symm, U, by rw [ef]; exact hC, by rw [ef]; exact X.1⟩) dX6_total_110
        by_cases ht_10 : x1 = 6
        · subst ht_10
          refine z_tabI E 72 111 dX6_total_39 ⟨by omega, by omega⟩ (by omega) (by omega) (by decide) (by decide) ?_
          refine lv_aload_n E.1 E.2.1 dX6_total_111 rfl (lv_at hl 0 rfl) ?_
          refine z_callV (As := []) (rest := []) (n := 0) E X (lM_0 C cA am S U) rfl (m_floor l D cA B0 C am S U ) gX6_total_X6_floor rfl (by decide +kernel) ⟨by decide, by decide⟩ rfl hl.1 rfl (Nat.le_of_ble_eq_true rfl) dX6_total_112 ⟨by decide, by decide⟩ X.1 0 0 ⟨rfl, rfl⟩ (fun v H locs hv hS_11 => ?_)
          obtain ⟨rfl, hw⟩ := hv
          replace X : zX D B0 (zj C (layM cA am S U)) s.heap H locs := ⟨hw, hS_11⟩
          have ef : fTotal S 6 = ((S 1 0) + (S 2 0), S) := by
            rfl
          exact z_ret E X hQ (⟨(congrArg (fun w => some (Value.int (i32 w.1))) ef).symm, U, by rw [ef]; exact hC, by rw [ef]; exact X.1⟩) dX6_total_115
        by_cases ht_12 : x1 = 7
        · subst ht_12
          refine z_tabI E 77 116 dX6_total_39 ⟨by omega, by omega⟩ (by omega) (by omega) (by decide) (by decide) ?_
          refine lv_aload_n E.1 E.2.1 dX6_total_116 rfl (lv_at hl 0 rfl) ?_
          refine z_get E X (lM_0 C cA am S U) rfl iX6 17 (by decide) (by decide +kernel) (v := .int (i32 (S 17 0))) rfl dX6_total_117 ?_
          refine z_feq E 127 ⟨by omega, by omega⟩ dX6_total_120 (by decide) (fun h120_13 => ?_) (fun h120_13 => ?_)
          · refine z_iconst E dX6_total_127 ?_
            refine z_top (S 17 0) (by omega) ?_
            have ef : fTotal S 7 = (S 17 0, S) := by
              rfl
            exact z_ret E X hQ (⟨(congrArg (fun w => some (Value.int (i32 w.1))) ef).symm, U, by rw [ef]; exact hC, by rw [ef]; exact X.1⟩) dX6_total_128
          · refine z_iconst E dX6_total_123 ?_
            refine lv_goto (tgt := 128) E.1 E.2.1 dX6_total_124 (by decide) ?_
            refine z_top (S 17 0) (by omega) ?_
            have ef : fTotal S 7 = (S 17 0, S) := by
              rfl
            exact z_ret E X hQ (⟨(congrArg (fun w => some (Value.int (i32 w.1))) ef).symm, U, by rw [ef]; exact hC, by rw [ef]; exact X.1⟩) dX6_total_128
        refine z_tabO E 129 dX6_total_39 ⟨by omega, by omega⟩ (by omega) (by decide) ?_
        refine z_bipush E dX6_total_129 (by decide +kernel) ?_
        have ef : fTotal S x1 = (-2, S) := by
          unfold fTotal
          rw [if_neg (by omega), if_neg (by omega), if_neg (by omega), if_neg (by omega), if_neg (by omega), if_neg (by omega), if_neg (by omega), if_neg (by omega)]
        exact z_ret E X hQ (⟨(congrArg (fun w => some (Value.int (i32 w.1))) ef).symm, U, by rw [ef]; exact hC, by rw [ef]; exact X.1⟩) dX6_total_131
      · have h4 := hI.2.2.2.2.1.1 i (by omega)
        refine lv_iload_n E.1 E.2.1 dX6_total_15 rfl (lv_at hl 2 rfl) ?_
        refine lv_aload_n E.1 E.2.1 dX6_total_16 rfl (lv_at hl 0 rfl) ?_
        refine z_get E X (lM_0 C cA am S U) rfl iX6 23 (by decide) (by decide +kernel) (v := .ref (am 23)) rfl dX6_total_17 ?_
        refine lv_iload_n E.1 E.2.1 dX6_total_20 rfl (lv_at hl 3 rfl) ?_
        refine z_iald E X (lM_23 C cA am S U) i (by omega) (by omega) (by decide) dX6_total_21 ?_
        refine z_fge E 29 ⟨by omega, by omega⟩ dX6_total_22 (by decide) (fun h22_14 => ?_) (fun h22_14 => ?_)
        · refine z_iconst E dX6_total_29 ?_
          refine z_iadd E dX6_total_30 ?_
          refine z_top (sumn (fun q => if S 23 q < 0 then 0 else 1) (i + 1)) (by rw [sumn_S]; simp only [if_neg (show ¬ S 23 i < 0 by omega)]) ?_
          refine lv_istore_n (lv' := [(2, .int (i32 (sumn (fun q => if S 23 q < 0 then 0 else 1) (i + 1)))), (0, .ref (am 0)), (1, .int (i32 x1)), (3, .int (i32 (i : Int)))]) E.1 E.2.1 dX6_total_31 rfl hl (by decide) rfl (fun ls hl => ?_)
          refine z_iinc (lv' := [(3, .int (i32 ((i + 1 : Nat) : Int))), (2, .int (i32 (sumn (fun q => if S 23 q < 0 then 0 else 1) (i + 1)))), (0, .ref (am 0)), (1, .int (i32 x1))]) E dX6_total_32 hl (k := 3) rfl (by decide) rfl (fun ls hl => ?_)
          refine lv_goto (tgt := 9) E.1 E.2.1 dX6_total_35 (by decide) ?_
          exact ih9 (i + 1) _ _ _ (by omega) (by omega) X (lv_sub hl [2, 3, 1, 0] rfl)
        · refine z_iconst E dX6_total_25 ?_
          refine lv_goto (tgt := 30) E.1 E.2.1 dX6_total_26 (by decide) ?_
          refine z_iadd E dX6_total_30 ?_
          refine z_top (sumn (fun q => if S 23 q < 0 then 0 else 1) (i + 1)) (by rw [sumn_S]; simp only [if_pos (show S 23 i < 0 by omega)]) ?_
          refine lv_istore_n (lv' := [(2, .int (i32 (sumn (fun q => if S 23 q < 0 then 0 else 1) (i + 1)))), (0, .ref (am 0)), (1, .int (i32 x1)), (3, .int (i32 (i : Int)))]) E.1 E.2.1 dX6_total_31 rfl hl (by decide) rfl (fun ls hl => ?_)
          refine z_iinc (lv' := [(3, .int (i32 ((i + 1 : Nat) : Int))), (2, .int (i32 (sumn (fun q => if S 23 q < 0 then 0 else 1) (i + 1)))), (0, .ref (am 0)), (1, .int (i32 x1))]) E dX6_total_32 hl (k := 3) rfl (by decide) rfl (fun ls hl => ?_)
          refine lv_goto (tgt := 9) E.1 E.2.1 dX6_total_35 (by decide) ?_
          exact ih9 (i + 1) _ _ _ (by omega) (by omega) X (lv_sub hl [2, 3, 1, 0] rfl)
  exact key9 ((6 - 0) + 1) 0 _ _ _ (by omega) (by omega) X (lv_sub hl [2, 3, 1, 0] rfl)

