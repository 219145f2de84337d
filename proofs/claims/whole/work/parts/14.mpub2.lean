theorem slb_new {f : Nat → Int} {d : Nat} {bs ne : Int} (h : 0 < d → bs = argb f (d - 1) + 1 ∧ ne = minb f (d - 1)) (hc : d = 0 ∨ f d < ne) : ((d + 1 : Nat) : Int) = argb f (d + 1 - 1) + 1 ∧ f d = minb f (d + 1 - 1) := by
  simp only [Nat.add_sub_cancel]
  cases d with
  | zero => exact ⟨rfl, rfl⟩
  | succ k =>
    obtain ⟨-, h2⟩ := h (Nat.succ_pos k)
    simp only [Nat.add_sub_cancel] at h2
    rw [argb_S, minb_S, if_pos (by omega), if_pos (by omega)]
    exact ⟨by omega, rfl⟩
theorem slb_keep {f : Nat → Int} {d : Nat} {bs ne : Int} (h : 0 < d → bs = argb f (d - 1) + 1 ∧ ne = minb f (d - 1)) (h0 : 0 < d) (hc : ¬ f d < ne) : bs = argb f (d + 1 - 1) + 1 ∧ ne = minb f (d + 1 - 1) := by
  simp only [Nat.add_sub_cancel]
  cases d with
  | zero => exact absurd h0 (Nat.lt_irrefl 0)
  | succ k =>
    obtain ⟨h1, h2⟩ := h (Nat.succ_pos k)
    simp only [Nat.add_sub_cancel] at h1 h2
    rw [argb_S, minb_S, if_neg (by omega), if_neg (by omega)]
    exact ⟨h1, h2⟩
abbrev rX6_slowness : Room := { frames := 4, cells := 0, slots := 0, locals := 102 }
set_option maxHeartbeats 4000000 in
set_option maxRecDepth 100000 in
theorem M_slowness (l : Launch) (D : va_G) (cA : Nat → ClassId) (B0 : Nat) (C : zL) (am : Nat → Nat) (S U : zS) (hI : SI S) (hC : MC S U) (x1 x2 x3 : Int) (hx1 : zr x1) (hx2 : zr x2) (hx3 : zr x3) : zM l yX6_slowness wsX6_slowness rX6_slowness [.ref (am 0), .int (i32 x1), .int (i32 x2), .int (i32 x3)] D cA B0 (zW D B0 (zj C (layM cA am S U))) (fun v H => v = some (.int (i32 (fSlow S x1 x2 x3).1)) ∧ ∃ U : zS, MC (fSlow S x1 x2 x3).2 U ∧ zW D B0 (zj C (layM cA am (fSlow S x1 x2 x3).2 U)) H) := by
  refine z_met (cc := cX6_slowness) (maxL := 11) (ret := (some .int)) (by decide) rfl (Nat.le_of_ble_eq_true rfl) ?_
  intro p e s m args below meth c ls Q hQ E hP hB hS hl
  have hl : lv_has ls 11 [(0, .ref (am 0)), (1, .int (i32 x1)), (2, .int (i32 x2)), (3, .int (i32 x3))] := hl
  have iX6 : ∀ w ∈ u_ws RX6 TX6 28, w ∈ wsX6_slowness := by decide +kernel
  have X : zX D B0 (zj C (layM cA am S U)) s.heap s.heap [] := ⟨hP, hS⟩
  have hI0 := hI.1
  unfold SI0 at hI0
  obtain ⟨b1, b2, b3, b4, b5, b8, b17, b19, b7⟩ := hI0
  unfold zr at hx1 hx2 hx3
  refine lv_aload_n E.1 E.2.1 dX6_slowness_0 rfl (lv_at hl 0 rfl) ?_
  refine z_iconst E dX6_slowness_1 ?_
  refine z_put E X (lM_0 C cA am S U) rfl iX6 tyX6 tyX6_ok nmX6 0 (by decide) (by decide +kernel) rfl rfl rfl (Nat.le_of_ble_eq_true rfl) dX6_slowness_2 (fun H locs X => ?_)
  have X := mp_0 X
  have hC : MC S (zs U 0 0 0) := MC_own hC
  generalize zs U 0 0 0 = U at X hC
  refine lv_aload_n E.1 E.2.1 dX6_slowness_5 rfl (lv_at hl 0 rfl) ?_
  refine lv_iload_n E.1 E.2.1 dX6_slowness_6 rfl (lv_at hl 1 rfl) ?_
  refine z_callV (As := [.int (i32 x1)]) (rest := []) (n := 1) E X (lM_0 C cA am S U) rfl (m_noElement l D cA B0 C am S U hI.1 x1 ⟨by omega, by omega⟩) gX6_slowness_X6_noElement rfl (by decide +kernel) ⟨by decide, by decide⟩ rfl hl.1 rfl (Nat.le_of_ble_eq_true rfl) dX6_slowness_7 ⟨by decide, by decide⟩ X.1 0 0 ⟨rfl, rfl⟩ (fun v H locs hv hS_1 => ?_)
  obtain ⟨⟨z_2, rfl, ez_2⟩, hw⟩ := hv
  replace X : zX D B0 (zj C (layM cA am S U)) s.heap H locs := ⟨hw, hS_1⟩
  refine z_fne E 21 ⟨by omega, by omega⟩ dX6_slowness_10 (by decide) (fun h10_3 => ?_) (fun h10_3 => ?_)
  · refine z_iconst E dX6_slowness_21 ?_
    have ef : fSlow S x1 x2 x3 = (-1, S) := by
      unfold fSlow
      try simp only [Int.toNat_natCast]
      repeat' split
      all_goals first | rfl | (exfalso; omega)
    exact z_ret E X hQ (⟨(congrArg (fun w => some (Value.int (i32 w.1))) ef).symm, U, by rw [ef]; exact hC, by rw [ef]; exact X.1⟩) dX6_slowness_22
  · refine lv_aload_n E.1 E.2.1 dX6_slowness_13 rfl (lv_at hl 0 rfl) ?_
    refine lv_iload_n E.1 E.2.1 dX6_slowness_14 rfl (lv_at hl 2 rfl) ?_
    refine z_callV (As := [.int (i32 x2)]) (rest := []) (n := 1) E X (lM_0 C cA am S U) rfl (m_noElement l D cA B0 C am S U hI.1 x2 ⟨by omega, by omega⟩) gX6_slowness_X6_noElement rfl (by decide +kernel) ⟨by decide, by decide⟩ rfl hl.1 rfl (Nat.le_of_ble_eq_true rfl) dX6_slowness_15 ⟨by decide, by decide⟩ X.1 0 0 ⟨rfl, rfl⟩ (fun v H locs hv hS_4 => ?_)
    obtain ⟨⟨z_5, rfl, ez_5⟩, hw⟩ := hv
    replace X : zX D B0 (zj C (layM cA am S U)) s.heap H locs := ⟨hw, hS_4⟩
    refine z_feq E 23 ⟨by omega, by omega⟩ dX6_slowness_18 (by decide) (fun h18_6 => ?_) (fun h18_6 => ?_)
    · refine lv_iload_n E.1 E.2.1 dX6_slowness_23 rfl (lv_at hl 3 rfl) ?_
      refine z_fge E 30 ⟨by omega, by omega⟩ dX6_slowness_24 (by decide) (fun h24_7 => ?_) (fun h24_7 => ?_)
      · obtain ⟨ea, rfl⟩ : ∃ ea : Nat, x1 = (ea : Int) := ⟨x1.toNat, by omega⟩
        obtain ⟨eb, rfl⟩ : ∃ eb : Nat, x2 = (eb : Int) := ⟨x2.toNat, by omega⟩
        refine lv_aload_n E.1 E.2.1 dX6_slowness_30 rfl (lv_at hl 0 rfl) ?_
        refine z_get E X (lM_0 C cA am S U) rfl iX6 4 (by decide) (by decide +kernel) (v := .int (i32 (S 4 0))) rfl dX6_slowness_31 ?_
        refine lv_istore (lv' := [(4, .int (i32 (S 4 0))), (0, .ref (am 0)), (1, .int (i32 (ea : Int))), (2, .int (i32 (eb : Int))), (3, .int (i32 x3))]) E.1 E.2.1 dX6_slowness_34 hl (by decide) rfl (fun ls hl => ?_)
        refine z_iconst E dX6_slowness_36 ?_
        refine lv_istore (lv' := [(5, .int (i32 0)), (4, .int (i32 (S 4 0))), (0, .ref (am 0)), (1, .int (i32 (ea : Int))), (2, .int (i32 (eb : Int))), (3, .int (i32 x3))]) E.1 E.2.1 dX6_slowness_37 hl (by decide) rfl (fun ls hl => ?_)
        refine z_lconst (z := 0) E dX6_slowness_39 (by decide +kernel) ?_
        refine lv_lstore (lv' := [(6, .long (i64 0)), (5, .int (i32 0)), (4, .int (i32 (S 4 0))), (0, .ref (am 0)), (1, .int (i32 (ea : Int))), (2, .int (i32 (eb : Int))), (3, .int (i32 x3))]) E.1 E.2.1 dX6_slowness_40 hl (by decide) rfl (fun ls hl => ?_)
        refine z_iconst E dX6_slowness_42 ?_
        refine z_top ((0 + 1 : Nat) : Int) (rfl) ?_
        refine lv_istore (lv' := [(8, .int (i32 ((0 + 1 : Nat) : Int))), (6, .long (i64 0)), (5, .int (i32 0)), (4, .int (i32 (S 4 0))), (0, .ref (am 0)), (1, .int (i32 (ea : Int))), (2, .int (i32 (eb : Int))), (3, .int (i32 x3))]) E.1 E.2.1 dX6_slowness_43 hl (by decide) rfl (fun ls hl => ?_)
        have X : zX D B0 (zj C (layM cA am (zs S 4 0 (S 4 0)) U)) s.heap H locs := by rw [zs_id]; exact X
        have key45 : ∀ (N : Nat) (d : Nat) (z4 : Int) (bs : Int) (ne : Int) (U : zS) (H : Heap) (locs : List Loc) (ls : Array Slot), (8 - d) < N → (d ≤ 8) → (d = 0 → bs = 0 ∧ ne = 0) → (0 < d → bs = argb (slf S ea eb x3) (d - 1) + 1 ∧ ne = minb (slf S ea eb x3) (d - 1)) → (0 ≤ ne ∧ ne < 2147483648) → zX D B0 (zj C (layM cA am (zs S 4 0 z4) U)) s.heap H locs → lv_has ls 11 [(0, .ref (am 0)), (1, .int (i32 (ea : Int))), (2, .int (i32 (eb : Int))), (3, .int (i32 x3)), (4, .int (i32 (S 4 0))), (5, .int (i32 bs)), (6, .long (i64 ne)), (8, .int (i32 ((d + 1 : Nat) : Int)))] → W p l e rX6_slowness s m args below meth c H locs 0 0 Q (F0 m 45 ls []) := by
          intro N
          induction N with
          | zero => intros; omega
          | succ N ih45 =>
            intro d z4 bs ne U H locs ls hN hd hb0 hbn hner X hl
            refine lv_iload E.1 E.2.1 dX6_slowness_45 (lv_at hl 7 rfl) ?_
            refine z_bipush E dX6_slowness_47 (by decide +kernel) ?_
            refine z_cgt E 126 ⟨by omega, by omega⟩ ⟨by omega, by omega⟩ dX6_slowness_49 (by decide) (fun h49_8 => ?_) (fun h49_8 => ?_)
            · refine lv_aload_n E.1 E.2.1 dX6_slowness_126 rfl (lv_at hl 0 rfl) ?_
              refine lv_iload E.1 E.2.1 dX6_slowness_127 (lv_at hl 4 rfl) ?_
              refine z_put E X (lM_0 C cA am (zs S 4 0 z4) U) rfl iX6 tyX6 tyX6_ok nmX6 4 (by decide) (by decide +kernel) rfl rfl rfl (Nat.le_of_ble_eq_true rfl) dX6_slowness_129 (fun H locs X => ?_)
              have X := mp_4 X
              rw [zs_zs, zs_id] at X
              refine lv_aload_n E.1 E.2.1 dX6_slowness_132 rfl (lv_at hl 0 rfl) ?_
              refine z_callV (As := []) (rest := []) (n := 0) E X (lM_0 C cA am S U) rfl (m_unmake l D cA B0 C am S U) gX6_slowness_X6_unmake rfl (by decide +kernel) ⟨by decide, by decide⟩ rfl hl.1 rfl (Nat.le_of_ble_eq_true rfl) dX6_slowness_133 ⟨by decide, by decide⟩ X.1 0 0 ⟨rfl, rfl⟩ (fun v H locs hv hS_9 => ?_)
              have ev : v = none := hv.1
              subst ev
              obtain ⟨-, U_10, hU_10T, hU_10z, hw⟩ := hv
              replace X : zX D B0 (zj C (layM cA am S U_10)) s.heap H locs := ⟨hw, hS_9⟩
              refine lv_iload E.1 E.2.1 dX6_slowness_136 (lv_at hl 5 rfl) ?_
              have ef : fSlow S (ea : Int) (eb : Int) x3 = (bs, S) := by
                unfold fSlow
                rw [if_neg (by omega), if_neg (by omega), (hbn (by omega)).1, show d - 1 = 7 by omega]
                rfl
              exact z_ret E X hQ (⟨(congrArg (fun w => some (Value.int (i32 w.1))) ef).symm, U_10, by rw [ef]; exact MC_zero hU_10z, by rw [ef]; exact X.1⟩) dX6_slowness_138
            · refine lv_aload_n E.1 E.2.1 dX6_slowness_52 rfl (lv_at hl 0 rfl) ?_
              refine lv_iload E.1 E.2.1 dX6_slowness_53 (lv_at hl 7 rfl) ?_
              refine z_put E X (lM_0 C cA am (zs S 4 0 z4) U) rfl iX6 tyX6 tyX6_ok nmX6 4 (by decide) (by decide +kernel) rfl rfl rfl (Nat.le_of_ble_eq_true rfl) dX6_slowness_55 (fun H locs X => ?_)
              have X := mp_4 X
              rw [zs_zs] at X
              have hI2 := SI_slow (z := ((d + 1 : Nat) : Int)) hI (by omega)
              have q1 : zs S 4 0 ((d + 1 : Nat) : Int) 1 0 = S 1 0 := rfl
              have q2 : zs S 4 0 ((d + 1 : Nat) : Int) 2 0 = S 2 0 := rfl
              have q5 : zs S 4 0 ((d + 1 : Nat) : Int) 5 0 = S 5 0 := rfl
              refine lv_aload_n E.1 E.2.1 dX6_slowness_58 rfl (lv_at hl 0 rfl) ?_
              refine z_callV (As := []) (rest := []) (n := 0) E X (lM_0 C cA am (zs S 4 0 ((d + 1 : Nat) : Int)) U) rfl (m_unmake l D cA B0 C am (zs S 4 0 ((d + 1 : Nat) : Int)) U) gX6_slowness_X6_unmake rfl (by decide +kernel) ⟨by decide, by decide⟩ rfl hl.1 rfl (Nat.le_of_ble_eq_true rfl) dX6_slowness_59 ⟨by decide, by decide⟩ X.1 0 0 ⟨rfl, rfl⟩ (fun v H locs hv hS_11 => ?_)
              have ev : v = none := hv.1
              subst ev
              obtain ⟨-, U_12, hU_12T, hU_12z, hw⟩ := hv
              replace X : zX D B0 (zj C (layM cA am (zs S 4 0 ((d + 1 : Nat) : Int)) U_12)) s.heap H locs := ⟨hw, hS_11⟩
              have hC : MC (zs S 4 0 ((d + 1 : Nat) : Int)) U_12 := MC_zero hU_12z
              refine lv_aload_n E.1 E.2.1 dX6_slowness_62 rfl (lv_at hl 0 rfl) ?_
              refine lv_iload_n E.1 E.2.1 dX6_slowness_63 rfl (lv_at hl 1 rfl) ?_
              refine lv_iload_n E.1 E.2.1 dX6_slowness_64 rfl (lv_at hl 2 rfl) ?_
              refine z_iconst E dX6_slowness_65 ?_
              refine z_top (0 : Int) (rfl) ?_
              refine z_bipush E dX6_slowness_66 (by decide +kernel) ?_
              refine z_top (50 : Int) (rfl) ?_
              refine lv_aload_n E.1 E.2.1 dX6_slowness_68 rfl (lv_at hl 0 rfl) ?_
              refine z_callV (As := []) (rest := [.int (i32 (50 : Int)), .int (i32 (0 : Int)), .int (i32 (eb : Int)), .int (i32 (ea : Int)), .ref (am 0)]) (n := 0) E X (lM_0 C cA am (zs S 4 0 ((d + 1 : Nat) : Int)) U_12) rfl (m_floor l D cA B0 C am (zs S 4 0 ((d + 1 : Nat) : Int)) U_12 ) gX6_slowness_X6_floor rfl (by decide +kernel) ⟨by decide, by decide⟩ rfl hl.1 rfl (Nat.le_of_ble_eq_true rfl) dX6_slowness_69 ⟨by decide, by decide⟩ X.1 0 0 ⟨rfl, rfl⟩ (fun v H locs hv hS_13 => ?_)
              obtain ⟨rfl, hw⟩ := hv
              replace X : zX D B0 (zj C (layM cA am (zs S 4 0 ((d + 1 : Nat) : Int)) U_12)) s.heap H locs := ⟨hw, hS_13⟩
              refine z_top (((S 1 0 + S 2 0).toNat : Nat) : Int) (by omega) ?_
              refine z_callV (As := [.int (i32 (ea : Int)), .int (i32 (eb : Int)), .int (i32 (0 : Int)), .int (i32 (50 : Int)), .int (i32 (((S 1 0 + S 2 0).toNat : Nat) : Int))]) (rest := []) (n := 5) E X (lM_0 C cA am (zs S 4 0 ((d + 1 : Nat) : Int)) U_12) rfl (m_least l D cA B0 C am (zs S 4 0 ((d + 1 : Nat) : Int)) U_12 hI2 hC ea eb 0 50 ((S 1 0 + S 2 0).toNat) (by omega) (by omega) (by omega) (by omega) (by omega)) gX6_slowness_X6_least rfl (by decide +kernel) ⟨by decide, by decide⟩ rfl hl.1 rfl (Nat.le_of_ble_eq_true rfl) dX6_slowness_72 ⟨by decide, by decide⟩ X.1 0 0 ⟨rfl, rfl⟩ (fun v H locs hv hS_14 => ?_)
              obtain ⟨rfl, U_15, hC, hw⟩ := hv
              replace X : zX D B0 (zj C (layM cA am (zs S 4 0 ((d + 1 : Nat) : Int)) U_15)) s.heap H locs := ⟨hw, hS_14⟩
              have f_16 := LST_rng (a := ea) (b := eb) (x := 0) (n := 50 - 0) (y := ((S 1 0 + S 2 0).toNat)) hI2 (by omega) (by omega) (by omega) (by omega)
              have e50 : LST (zs S 4 0 ((d + 1 : Nat) : Int)) ea eb 0 (50 - 0) (S 1 0 + S 2 0).toNat = LST (zs S 4 0 ((d + 1 : Nat) : Int)) ea eb 0 50 (S 1 0 + S 2 0).toNat := rfl
              refine z_top (LST (zs S 4 0 ((d + 1 : Nat) : Int)) ea eb 0 50 (S 1 0 + S 2 0).toNat) (rfl) ?_
              refine z_i2l E ⟨by omega, by omega⟩ dX6_slowness_75 ?_
              refine lv_iload_n E.1 E.2.1 dX6_slowness_76 rfl (lv_at hl 3 rfl) ?_
              refine z_i2l E ⟨by omega, by omega⟩ dX6_slowness_77 ?_
              refine z_lsub E dX6_slowness_78 ?_
              refine lv_lstore (lv' := [(9, .long (i64 ((LST (zs S 4 0 ((d + 1 : Nat) : Int)) ea eb 0 50 (S 1 0 + S 2 0).toNat) - x3))), (0, .ref (am 0)), (1, .int (i32 (ea : Int))), (2, .int (i32 (eb : Int))), (3, .int (i32 x3)), (4, .int (i32 (S 4 0))), (5, .int (i32 bs)), (6, .long (i64 ne)), (8, .int (i32 ((d + 1 : Nat) : Int)))]) E.1 E.2.1 dX6_slowness_79 hl (by decide) rfl (fun ls hl => ?_)
              refine lv_lload E.1 E.2.1 dX6_slowness_81 (lv_at hl 0 rfl) ?_
              refine z_lconst (z := 0) E dX6_slowness_83 (by decide +kernel) ?_
              refine z_lcmp E ⟨by omega, by omega⟩ ⟨by omega, by omega⟩ dX6_slowness_84 (fun z_17 hrz_17 hlz_17 hez_17 => ?_)
              unfold zr at hrz_17
              refine z_fge E 94 ⟨by omega, by omega⟩ dX6_slowness_85 (by decide) (fun h85_18 => ?_) (fun h85_18 => ?_)
              · refine lv_lload E.1 E.2.1 dX6_slowness_94 (lv_at hl 0 rfl) ?_
                refine z_topl (slf S ea eb x3 d) (by unfold slf zabs; rw [if_pos (by omega)]) ?_
                have hsf := slf_rng (S := S) (a := ea) (b := eb) (d := d) (ticks := x3) hI (by omega) (by omega) (by omega) (by omega)
                refine lv_lstore (lv' := [(9, .long (i64 (slf S ea eb x3 d))), (0, .ref (am 0)), (1, .int (i32 (ea : Int))), (2, .int (i32 (eb : Int))), (3, .int (i32 x3)), (4, .int (i32 (S 4 0))), (5, .int (i32 bs)), (6, .long (i64 ne)), (8, .int (i32 ((d + 1 : Nat) : Int)))]) E.1 E.2.1 dX6_slowness_96 hl (by decide) rfl (fun ls hl => ?_)
                refine lv_iload E.1 E.2.1 dX6_slowness_98 (lv_at hl 8 rfl) ?_
                refine z_iconst E dX6_slowness_100 ?_
                refine z_ceq E 112 ⟨by omega, by omega⟩ ⟨by omega, by omega⟩ dX6_slowness_101 (by decide) (fun h101_19 => ?_) (fun h101_19 => ?_)
                · refine lv_iload E.1 E.2.1 dX6_slowness_112 (lv_at hl 8 rfl) ?_
                  refine lv_istore (lv' := [(5, .int (i32 ((d + 1 : Nat) : Int))), (9, .long (i64 (slf S ea eb x3 d))), (0, .ref (am 0)), (1, .int (i32 (ea : Int))), (2, .int (i32 (eb : Int))), (3, .int (i32 x3)), (4, .int (i32 (S 4 0))), (6, .long (i64 ne)), (8, .int (i32 ((d + 1 : Nat) : Int)))]) E.1 E.2.1 dX6_slowness_114 hl (by decide) rfl (fun ls hl => ?_)
                  refine lv_lload E.1 E.2.1 dX6_slowness_116 (lv_at hl 1 rfl) ?_
                  refine lv_lstore (lv' := [(6, .long (i64 (slf S ea eb x3 d))), (5, .int (i32 ((d + 1 : Nat) : Int))), (9, .long (i64 (slf S ea eb x3 d))), (0, .ref (am 0)), (1, .int (i32 (ea : Int))), (2, .int (i32 (eb : Int))), (3, .int (i32 x3)), (4, .int (i32 (S 4 0))), (8, .int (i32 ((d + 1 : Nat) : Int)))]) E.1 E.2.1 dX6_slowness_118 hl (by decide) rfl (fun ls hl => ?_)
                  refine z_iinc (lv' := [(8, .int (i32 ((d + 1 + 1 : Nat) : Int))), (6, .long (i64 (slf S ea eb x3 d))), (5, .int (i32 ((d + 1 : Nat) : Int))), (9, .long (i64 (slf S ea eb x3 d))), (0, .ref (am 0)), (1, .int (i32 (ea : Int))), (2, .int (i32 (eb : Int))), (3, .int (i32 x3)), (4, .int (i32 (S 4 0)))]) E dX6_slowness_120 hl (k := 8) rfl (by decide) rfl (fun ls hl => ?_)
                  refine lv_goto (tgt := 45) E.1 E.2.1 dX6_slowness_123 (by decide) ?_
                  exact ih45 (d + 1) ((d + 1 : Nat) : Int) ((d + 1 : Nat) : Int) (slf S ea eb x3 d) U_15 _ _ _ (by omega) (by omega) (fun h => absurd h (Nat.succ_ne_zero d)) (fun _ => slb_new hbn (by omega)) (by omega) X (lv_sub hl [4, 5, 6, 7, 8, 2, 1, 0] rfl)
                · refine lv_lload E.1 E.2.1 dX6_slowness_104 (lv_at hl 0 rfl) ?_
                  refine lv_lload E.1 E.2.1 dX6_slowness_106 (lv_at hl 7 rfl) ?_
                  refine z_lcmp E ⟨by omega, by omega⟩ ⟨by omega, by omega⟩ dX6_slowness_108 (fun z_20 hrz_20 hlz_20 hez_20 => ?_)
                  unfold zr at hrz_20
                  refine z_fge E 120 ⟨by omega, by omega⟩ dX6_slowness_109 (by decide) (fun h109_21 => ?_) (fun h109_21 => ?_)
                  · refine z_iinc (lv' := [(8, .int (i32 ((d + 1 + 1 : Nat) : Int))), (9, .long (i64 (slf S ea eb x3 d))), (0, .ref (am 0)), (1, .int (i32 (ea : Int))), (2, .int (i32 (eb : Int))), (3, .int (i32 x3)), (4, .int (i32 (S 4 0))), (5, .int (i32 bs)), (6, .long (i64 ne))]) E dX6_slowness_120 hl (k := 8) rfl (by decide) rfl (fun ls hl => ?_)
                    refine lv_goto (tgt := 45) E.1 E.2.1 dX6_slowness_123 (by decide) ?_
                    exact ih45 (d + 1) ((d + 1 : Nat) : Int) bs ne U_15 _ _ _ (by omega) (by omega) (fun h => absurd h (Nat.succ_ne_zero d)) (fun _ => slb_keep hbn (by omega) (by omega)) (by omega) X (lv_sub hl [2, 3, 4, 5, 6, 7, 8, 0] rfl)
                  · refine lv_iload E.1 E.2.1 dX6_slowness_112 (lv_at hl 8 rfl) ?_
                    refine lv_istore (lv' := [(5, .int (i32 ((d + 1 : Nat) : Int))), (9, .long (i64 (slf S ea eb x3 d))), (0, .ref (am 0)), (1, .int (i32 (ea : Int))), (2, .int (i32 (eb : Int))), (3, .int (i32 x3)), (4, .int (i32 (S 4 0))), (6, .long (i64 ne)), (8, .int (i32 ((d + 1 : Nat) : Int)))]) E.1 E.2.1 dX6_slowness_114 hl (by decide) rfl (fun ls hl => ?_)
                    refine lv_lload E.1 E.2.1 dX6_slowness_116 (lv_at hl 1 rfl) ?_
                    refine lv_lstore (lv' := [(6, .long (i64 (slf S ea eb x3 d))), (5, .int (i32 ((d + 1 : Nat) : Int))), (9, .long (i64 (slf S ea eb x3 d))), (0, .ref (am 0)), (1, .int (i32 (ea : Int))), (2, .int (i32 (eb : Int))), (3, .int (i32 x3)), (4, .int (i32 (S 4 0))), (8, .int (i32 ((d + 1 : Nat) : Int)))]) E.1 E.2.1 dX6_slowness_118 hl (by decide) rfl (fun ls hl => ?_)
                    refine z_iinc (lv' := [(8, .int (i32 ((d + 1 + 1 : Nat) : Int))), (6, .long (i64 (slf S ea eb x3 d))), (5, .int (i32 ((d + 1 : Nat) : Int))), (9, .long (i64 (slf S ea eb x3 d))), (0, .ref (am 0)), (1, .int (i32 (ea : Int))), (2, .int (i32 (eb : Int))), (3, .int (i32 x3)), (4, .int (i32 (S 4 0)))]) E dX6_slowness_120 hl (k := 8) rfl (by decide) rfl (fun ls hl => ?_)
                    refine lv_goto (tgt := 45) E.1 E.2.1 dX6_slowness_123 (by decide) ?_
                    exact ih45 (d + 1) ((d + 1 : Nat) : Int) ((d + 1 : Nat) : Int) (slf S ea eb x3 d) U_15 _ _ _ (by omega) (by omega) (fun h => absurd h (Nat.succ_ne_zero d)) (fun _ => slb_new hbn (by omega)) (by omega) X (lv_sub hl [4, 5, 6, 7, 8, 2, 1, 0] rfl)
              · refine lv_lload E.1 E.2.1 dX6_slowness_88 (lv_at hl 0 rfl) ?_
                refine z_lneg E dX6_slowness_90 ?_
                refine lv_goto (tgt := 96) E.1 E.2.1 dX6_slowness_91 (by decide) ?_
                refine z_topl (slf S ea eb x3 d) (by unfold slf zabs; rw [if_neg (by omega)]) ?_
                have hsf := slf_rng (S := S) (a := ea) (b := eb) (d := d) (ticks := x3) hI (by omega) (by omega) (by omega) (by omega)
                refine lv_lstore (lv' := [(9, .long (i64 (slf S ea eb x3 d))), (0, .ref (am 0)), (1, .int (i32 (ea : Int))), (2, .int (i32 (eb : Int))), (3, .int (i32 x3)), (4, .int (i32 (S 4 0))), (5, .int (i32 bs)), (6, .long (i64 ne)), (8, .int (i32 ((d + 1 : Nat) : Int)))]) E.1 E.2.1 dX6_slowness_96 hl (by decide) rfl (fun ls hl => ?_)
                refine lv_iload E.1 E.2.1 dX6_slowness_98 (lv_at hl 8 rfl) ?_
                refine z_iconst E dX6_slowness_100 ?_
                refine z_ceq E 112 ⟨by omega, by omega⟩ ⟨by omega, by omega⟩ dX6_slowness_101 (by decide) (fun h101_22 => ?_) (fun h101_22 => ?_)
                · refine lv_iload E.1 E.2.1 dX6_slowness_112 (lv_at hl 8 rfl) ?_
                  refine lv_istore (lv' := [(5, .int (i32 ((d + 1 : Nat) : Int))), (9, .long (i64 (slf S ea eb x3 d))), (0, .ref (am 0)), (1, .int (i32 (ea : Int))), (2, .int (i32 (eb : Int))), (3, .int (i32 x3)), (4, .int (i32 (S 4 0))), (6, .long (i64 ne)), (8, .int (i32 ((d + 1 : Nat) : Int)))]) E.1 E.2.1 dX6_slowness_114 hl (by decide) rfl (fun ls hl => ?_)
                  refine lv_lload E.1 E.2.1 dX6_slowness_116 (lv_at hl 1 rfl) ?_
                  refine lv_lstore (lv' := [(6, .long (i64 (slf S ea eb x3 d))), (5, .int (i32 ((d + 1 : Nat) : Int))), (9, .long (i64 (slf S ea eb x3 d))), (0, .ref (am 0)), (1, .int (i32 (ea : Int))), (2, .int (i32 (eb : Int))), (3, .int (i32 x3)), (4, .int (i32 (S 4 0))), (8, .int (i32 ((d + 1 : Nat) : Int)))]) E.1 E.2.1 dX6_slowness_118 hl (by decide) rfl (fun ls hl => ?_)
                  refine z_iinc (lv' := [(8, .int (i32 ((d + 1 + 1 : Nat) : Int))), (6, .long (i64 (slf S ea eb x3 d))), (5, .int (i32 ((d + 1 : Nat) : Int))), (9, .long (i64 (slf S ea eb x3 d))), (0, .ref (am 0)), (1, .int (i32 (ea : Int))), (2, .int (i32 (eb : Int))), (3, .int (i32 x3)), (4, .int (i32 (S 4 0)))]) E dX6_slowness_120 hl (k := 8) rfl (by decide) rfl (fun ls hl => ?_)
                  refine lv_goto (tgt := 45) E.1 E.2.1 dX6_slowness_123 (by decide) ?_
                  exact ih45 (d + 1) ((d + 1 : Nat) : Int) ((d + 1 : Nat) : Int) (slf S ea eb x3 d) U_15 _ _ _ (by omega) (by omega) (fun h => absurd h (Nat.succ_ne_zero d)) (fun _ => slb_new hbn (by omega)) (by omega) X (lv_sub hl [4, 5, 6, 7, 8, 2, 1, 0] rfl)
                · refine lv_lload E.1 E.2.1 dX6_slowness_104 (lv_at hl 0 rfl) ?_
                  refine lv_lload E.1 E.2.1 dX6_slowness_106 (lv_at hl 7 rfl) ?_
                  refine z_lcmp E ⟨by omega, by omega⟩ ⟨by omega, by omega⟩ dX6_slowness_108 (fun z_23 hrz_23 hlz_23 hez_23 => ?_)
                  unfold zr at hrz_23
                  refine z_fge E 120 ⟨by omega, by omega⟩ dX6_slowness_109 (by decide) (fun h109_24 => ?_) (fun h109_24 => ?_)
                  · refine z_iinc (lv' := [(8, .int (i32 ((d + 1 + 1 : Nat) : Int))), (9, .long (i64 (slf S ea eb x3 d))), (0, .ref (am 0)), (1, .int (i32 (ea : Int))), (2, .int (i32 (eb : Int))), (3, .int (i32 x3)), (4, .int (i32 (S 4 0))), (5, .int (i32 bs)), (6, .long (i64 ne))]) E dX6_slowness_120 hl (k := 8) rfl (by decide) rfl (fun ls hl => ?_)
                    refine lv_goto (tgt := 45) E.1 E.2.1 dX6_slowness_123 (by decide) ?_
                    exact ih45 (d + 1) ((d + 1 : Nat) : Int) bs ne U_15 _ _ _ (by omega) (by omega) (fun h => absurd h (Nat.succ_ne_zero d)) (fun _ => slb_keep hbn (by omega) (by omega)) (by omega) X (lv_sub hl [2, 3, 4, 5, 6, 7, 8, 0] rfl)
                  · refine lv_iload E.1 E.2.1 dX6_slowness_112 (lv_at hl 8 rfl) ?_
                    refine lv_istore (lv' := [(5, .int (i32 ((d + 1 : Nat) : Int))), (9, .long (i64 (slf S ea eb x3 d))), (0, .ref (am 0)), (1, .int (i32 (ea : Int))), (2, .int (i32 (eb : Int))), (3, .int (i32 x3)), (4, .int (i32 (S 4 0))), (6, .long (i64 ne)), (8, .int (i32 ((d + 1 : Nat) : Int)))]) E.1 E.2.1 dX6_slowness_114 hl (by decide) rfl (fun ls hl => ?_)
                    refine lv_lload E.1 E.2.1 dX6_slowness_116 (lv_at hl 1 rfl) ?_
                    refine lv_lstore (lv' := [(6, .long (i64 (slf S ea eb x3 d))), (5, .int (i32 ((d + 1 : Nat) : Int))), (9, .long (i64 (slf S ea eb x3 d))), (0, .ref (am 0)), (1, .int (i32 (ea : Int))), (2, .int (i32 (eb : Int))), (3, .int (i32 x3)), (4, .int (i32 (S 4 0))), (8, .int (i32 ((d + 1 : Nat) : Int)))]) E.1 E.2.1 dX6_slowness_118 hl (by decide) rfl (fun ls hl => ?_)
                    refine z_iinc (lv' := [(8, .int (i32 ((d + 1 + 1 : Nat) : Int))), (6, .long (i64 (slf S ea eb x3 d))), (5, .int (i32 ((d + 1 : Nat) : Int))), (9, .long (i64 (slf S ea eb x3 d))), (0, .ref (am 0)), (1, .int (i32 (ea : Int))), (2, .int (i32 (eb : Int))), (3, .int (i32 x3)), (4, .int (i32 (S 4 0)))]) E dX6_slowness_120 hl (k := 8) rfl (by decide) rfl (fun ls hl => ?_)
                    refine lv_goto (tgt := 45) E.1 E.2.1 dX6_slowness_123 (by decide) ?_
                    exact ih45 (d + 1) ((d + 1 : Nat) : Int) ((d + 1 : Nat) : Int) (slf S ea eb x3 d) U_15 _ _ _ (by omega) (by omega) (fun h => absurd h (Nat.succ_ne_zero d)) (fun _ => slb_new hbn (by omega)) (by omega) X (lv_sub hl [4, 5, 6, 7, 8, 2, 1, 0] rfl)
        exact key45 ((8 - 0) + 1) 0 (S 4 0) 0 0 U _ _ _ (by omega) (by omega) (fun _ => ⟨rfl, rfl⟩) (fun h => absurd h (Nat.lt_irrefl 0)) (by omega) X (lv_sub hl [4, 5, 6, 7, 3, 2, 1, 0] rfl)
      · refine z_bipush E dX6_slowness_27 (by decide +kernel) ?_
        have ef : fSlow S x1 x2 x3 = (-2, S) := by
          unfold fSlow
          try simp only [Int.toNat_natCast]
          repeat' split
          all_goals first | rfl | (exfalso; omega)
        exact z_ret E X hQ (⟨(congrArg (fun w => some (Value.int (i32 w.1))) ef).symm, U, by rw [ef]; exact hC, by rw [ef]; exact X.1⟩) dX6_slowness_29
    · refine z_iconst E dX6_slowness_21 ?_
      have ef : fSlow S x1 x2 x3 = (-1, S) := by
        unfold fSlow
        try simp only [Int.toNat_natCast]
        repeat' split
        all_goals first | rfl | (exfalso; omega)
      exact z_ret E X hQ (⟨(congrArg (fun w => some (Value.int (i32 w.1))) ef).symm, U, by rw [ef]; exact hC, by rw [ef]; exact X.1⟩) dX6_slowness_22

abbrev rX6_gate : Room := { frames := 6, cells := 0, slots := 0, locals := 151 }
set_option maxHeartbeats 4000000 in
set_option maxRecDepth 100000 in
theorem M_gate (l : Launch) (D : va_G) (cA : Nat → ClassId) (B0 : Nat) (C : zL) (am : Nat → Nat) (S U : zS) (hI : SI S) (hC : MC S U) (x1 x2 x3 x4 x5 : Int) (hx1 : zr x1) (hx2 : zr x2) (hx3 : zr x3) (hx4 : zr x4) (hx5 : zr x5) : zM l yX6_gate wsX6_gate rX6_gate [.ref (am 0), .int (i32 x1), .int (i32 x2), .int (i32 x3), .int (i32 x4), .int (i32 x5)] D cA B0 (zW D B0 (zj C (layM cA am S U))) (fun v H => v = some (.int (i32 (fGate S x1 x2 x3 x4 x5).1)) ∧ ∃ U : zS, MC (fGate S x1 x2 x3 x4 x5).2 U ∧ zW D B0 (zj C (layM cA am (fGate S x1 x2 x3 x4 x5).2 U)) H) := by
  refine z_met (cc := cX6_gate) (maxL := 11) (ret := (some .int)) (by decide) rfl (Nat.le_of_ble_eq_true rfl) ?_
  intro p e s m args below meth c ls Q hQ E hP hB hS hl
  have hl : lv_has ls 11 [(0, .ref (am 0)), (1, .int (i32 x1)), (2, .int (i32 x2)), (3, .int (i32 x3)), (4, .int (i32 x4)), (5, .int (i32 x5))] := hl
  have iX6 : ∀ w ∈ u_ws RX6 TX6 28, w ∈ wsX6_gate := by decide +kernel
  have X : zX D B0 (zj C (layM cA am S U)) s.heap s.heap [] := ⟨hP, hS⟩
  have hI0 := hI.1
  unfold SI0 at hI0
  obtain ⟨b1, b2, b3, b4, b5, b8, b17, b19, b7⟩ := hI0
  unfold zr at hx1 hx2 hx3 hx4 hx5
  refine lv_aload_n E.1 E.2.1 dX6_gate_0 rfl (lv_at hl 0 rfl) ?_
  refine z_iconst E dX6_gate_1 ?_
  refine z_put E X (lM_0 C cA am S U) rfl iX6 tyX6 tyX6_ok nmX6 0 (by decide) (by decide +kernel) rfl rfl rfl (Nat.le_of_ble_eq_true rfl) dX6_gate_2 (fun H locs X => ?_)
  have X := mp_0 X
  have hC : MC S (zs U 0 0 0) := MC_own hC
  generalize zs U 0 0 0 = U at X hC
  refine lv_aload_n E.1 E.2.1 dX6_gate_5 rfl (lv_at hl 0 rfl) ?_
  refine lv_iload_n E.1 E.2.1 dX6_gate_6 rfl (lv_at hl 1 rfl) ?_
  refine z_callV (As := [.int (i32 x1)]) (rest := []) (n := 1) E X (lM_0 C cA am S U) rfl (m_noElement l D cA B0 C am S U hI.1 x1 ⟨by omega, by omega⟩) gX6_gate_X6_noElement rfl (by decide +kernel) ⟨by decide, by decide⟩ rfl hl.1 rfl (Nat.le_of_ble_eq_true rfl) dX6_gate_7 ⟨by decide, by decide⟩ X.1 0 0 ⟨rfl, rfl⟩ (fun v H locs hv hS_1 => ?_)
  obtain ⟨⟨z_2, rfl, ez_2⟩, hw⟩ := hv
  replace X : zX D B0 (zj C (layM cA am S U)) s.heap H locs := ⟨hw, hS_1⟩
  refine z_fne E 21 ⟨by omega, by omega⟩ dX6_gate_10 (by decide) (fun h10_3 => ?_) (fun h10_3 => ?_)
  · refine z_iconst E dX6_gate_21 ?_
    have ef : fGate S x1 x2 x3 x4 x5 = (-1, S) := by
      unfold fGate
      try simp only [Int.toNat_natCast]
      repeat' split
      all_goals first | rfl | (exfalso; omega)
    exact z_ret E X hQ (⟨(congrArg (fun w => some (Value.int (i32 w.1))) ef).symm, U, by rw [ef]; exact hC, by rw [ef]; exact X.1⟩) dX6_gate_22
  · refine lv_aload_n E.1 E.2.1 dX6_gate_13 rfl (lv_at hl 0 rfl) ?_
    refine lv_iload_n E.1 E.2.1 dX6_gate_14 rfl (lv_at hl 2 rfl) ?_
    refine z_callV (As := [.int (i32 x2)]) (rest := []) (n := 1) E X (lM_0 C cA am S U) rfl (m_noElement l D cA B0 C am S U hI.1 x2 ⟨by omega, by omega⟩) gX6_gate_X6_noElement rfl (by decide +kernel) ⟨by decide, by decide⟩ rfl hl.1 rfl (Nat.le_of_ble_eq_true rfl) dX6_gate_15 ⟨by decide, by decide⟩ X.1 0 0 ⟨rfl, rfl⟩ (fun v H locs hv hS_4 => ?_)
    obtain ⟨⟨z_5, rfl, ez_5⟩, hw⟩ := hv
    replace X : zX D B0 (zj C (layM cA am S U)) s.heap H locs := ⟨hw, hS_4⟩
    refine z_feq E 23 ⟨by omega, by omega⟩ dX6_gate_18 (by decide) (fun h18_6 => ?_) (fun h18_6 => ?_)
    · refine lv_iload_n E.1 E.2.1 dX6_gate_23 rfl (lv_at hl 3 rfl) ?_
      refine z_i2l E ⟨by omega, by omega⟩ dX6_gate_24 ?_
      refine z_lconst (z := 0) E dX6_gate_25 (by decide +kernel) ?_
      refine lv_iload E.1 E.2.1 dX6_gate_26 (lv_at hl 4 rfl) ?_
      refine z_i2l E ⟨by omega, by omega⟩ dX6_gate_28 ?_
      refine z_callJ (As := [.long (i64 x3), .long (i64 0), .long (i64 x4)]) (rest := []) (n := 3) E X (c_in l D cA B0 _ x3 0 x4 ⟨by omega, by omega⟩ ⟨by omega, by omega⟩ ⟨by omega, by omega⟩) gX6_gate_X6_in rfl (by decide +kernel) ⟨by decide, by decide⟩ rfl hl.1 rfl (Nat.le_of_ble_eq_true rfl) dX6_gate_29 ⟨by decide, by decide⟩ rfl 0 0 ⟨rfl, rfl⟩ (fun v H locs hv hS_7 => ?_)
      obtain ⟨hH, z_8, rfl, ez_8⟩ := hv
      subst hH
      replace X := X.same hS_7
      refine z_feq E 49 ⟨by omega, by omega⟩ dX6_gate_32 (by decide) (fun h32_9 => ?_) (fun h32_9 => ?_)
      · refine z_bipush E dX6_gate_49 (by decide +kernel) ?_
        have ef : fGate S x1 x2 x3 x4 x5 = (-2, S) := by
          unfold fGate
          try simp only [Int.toNat_natCast]
          repeat' split
          all_goals first | rfl | (exfalso; omega)
        exact z_ret E X hQ (⟨(congrArg (fun w => some (Value.int (i32 w.1))) ef).symm, U, by rw [ef]; exact hC, by rw [ef]; exact X.1⟩) dX6_gate_51
      · refine lv_iload E.1 E.2.1 dX6_gate_35 (lv_at hl 4 rfl) ?_
        refine z_sipush E dX6_gate_37 (by decide +kernel) ?_
        refine z_cgt E 49 ⟨by omega, by omega⟩ ⟨by omega, by omega⟩ dX6_gate_40 (by decide) (fun h40_10 => ?_) (fun h40_10 => ?_)
        · refine z_bipush E dX6_gate_49 (by decide +kernel) ?_
          have ef : fGate S x1 x2 x3 x4 x5 = (-2, S) := by
            unfold fGate
            try simp only [Int.toNat_natCast]
            repeat' split
            all_goals first | rfl | (exfalso; omega)
          exact z_ret E X hQ (⟨(congrArg (fun w => some (Value.int (i32 w.1))) ef).symm, U, by rw [ef]; exact hC, by rw [ef]; exact X.1⟩) dX6_gate_51
        · refine lv_iload E.1 E.2.1 dX6_gate_43 (lv_at hl 5 rfl) ?_
          refine z_iconst E dX6_gate_45 ?_
          refine z_cge E 52 ⟨by omega, by omega⟩ ⟨by omega, by omega⟩ dX6_gate_46 (by decide) (fun h46_11 => ?_) (fun h46_11 => ?_)
          · obtain ⟨ea, rfl⟩ : ∃ ea : Nat, x1 = (ea : Int) := ⟨x1.toNat, by omega⟩
            obtain ⟨eb, rfl⟩ : ∃ eb : Nat, x2 = (eb : Int) := ⟨x2.toNat, by omega⟩
            refine z_ldc (v := (-99999)) (z := -99999) E (by decide +kernel) (by decide +kernel) dX6_gate_52 ?_
            refine z_top (gtf S ea eb x3 x4 x5 0) (rfl) ?_
            refine lv_istore (lv' := [(6, .int (i32 (gtf S ea eb x3 x4 x5 0))), (0, .ref (am 0)), (1, .int (i32 (ea : Int))), (2, .int (i32 (eb : Int))), (3, .int (i32 x3)), (4, .int (i32 x4)), (5, .int (i32 x5))]) E.1 E.2.1 dX6_gate_54 hl (by decide) rfl (fun ls hl => ?_)
            refine z_iconst E dX6_gate_56 ?_
            refine z_top (0 : Int) (rfl) ?_
            refine lv_istore (lv' := [(7, .int (i32 (0 : Int))), (6, .int (i32 (gtf S ea eb x3 x4 x5 0))), (0, .ref (am 0)), (1, .int (i32 (ea : Int))), (2, .int (i32 (eb : Int))), (3, .int (i32 x3)), (4, .int (i32 x4)), (5, .int (i32 x5))]) E.1 E.2.1 dX6_gate_57 hl (by decide) rfl (fun ls hl => ?_)
            have key59 : ∀ (N : Nat) (n : Nat) (U : zS) (H : Heap) (locs : List Loc) (ls : Array Slot), ((S 8 0).toNat - n) < N → ((n : Int) ≤ S 8 0) → (MC S U) → zX D B0 (zj C (layM cA am S U)) s.heap H locs → lv_has ls 11 [(0, .ref (am 0)), (1, .int (i32 (ea : Int))), (2, .int (i32 (eb : Int))), (3, .int (i32 x3)), (4, .int (i32 x4)), (5, .int (i32 x5)), (6, .int (i32 (gtf S ea eb x3 x4 x5 n))), (7, .int (i32 (n : Int)))] → W p l e rX6_gate s m args below meth c H locs 0 0 Q (F0 m 59 ls []) := by
              intro N
              induction N with
              | zero => intros; omega
              | succ N ih59 =>
                intro n U H locs ls hN hn hC X hl
                refine lv_iload E.1 E.2.1 dX6_gate_59 (lv_at hl 7 rfl) ?_
                refine lv_aload_n E.1 E.2.1 dX6_gate_61 rfl (lv_at hl 0 rfl) ?_
                refine z_get E X (lM_0 C cA am S U) rfl iX6 8 (by decide) (by decide +kernel) (v := .int (i32 (S 8 0))) rfl dX6_gate_62 ?_
                refine z_cge E 162 ⟨by omega, by omega⟩ ⟨by omega, by omega⟩ dX6_gate_65 (by decide) (fun h65_12 => ?_) (fun h65_12 => ?_)
                · refine lv_iload E.1 E.2.1 dX6_gate_162 (lv_at hl 6 rfl) ?_
                  have ef : fGate S (ea : Int) (eb : Int) x3 x4 x5 = (gtf S ea eb x3 x4 x5 n, S) := by
                    unfold fGate
                    rw [if_neg (by omega), if_neg (by omega)]
                    simp only [Int.toNat_natCast]
                    rw [show (S 8 0).toNat = n by omega]
                  exact z_ret E X hQ (⟨(congrArg (fun w => some (Value.int (i32 w.1))) ef).symm, U, by rw [ef]; exact hC, by rw [ef]; exact X.1⟩) dX6_gate_164
                · have hg9 := gtf_rng (f1 := x3) (t1 := x4) (l1 := x5) hI (a := ea) (b := eb) (by omega) (by omega) n hn
                  refine lv_aload_n E.1 E.2.1 dX6_gate_68 rfl (lv_at hl 0 rfl) ?_
                  refine lv_iload_n E.1 E.2.1 dX6_gate_69 rfl (lv_at hl 1 rfl) ?_
                  refine lv_iload_n E.1 E.2.1 dX6_gate_70 rfl (lv_at hl 2 rfl) ?_
                  refine lv_iload E.1 E.2.1 dX6_gate_71 (lv_at hl 7 rfl) ?_
                  refine z_callV (As := [.int (i32 (ea : Int)), .int (i32 (eb : Int)), .int (i32 (n : Int))]) (rest := []) (n := 3) E X (lM_0 C cA am S U) rfl (m_echoOf l D cA B0 C am S U hI hC ea eb n (by omega) (by omega) (by omega)) gX6_gate_X6_echoOf rfl (by decide +kernel) ⟨by decide, by decide⟩ rfl hl.1 rfl (Nat.le_of_ble_eq_true rfl) dX6_gate_73 ⟨by decide, by decide⟩ X.1 0 0 ⟨rfl, rfl⟩ (fun v H locs hv hS_13 => ?_)
                  obtain ⟨rfl, U_14, hC, hw⟩ := hv
                  replace X : zX D B0 (zj C (layM cA am S U_14)) s.heap H locs := ⟨hw, hS_13⟩
                  have f_15 := ET_rng (a := ea) (b := eb) (t := n) hI (by omega) (by omega) (by omega)
                  refine lv_istore (lv' := [(8, .int (i32 (ET S ea eb n))), (0, .ref (am 0)), (1, .int (i32 (ea : Int))), (2, .int (i32 (eb : Int))), (3, .int (i32 x3)), (4, .int (i32 x4)), (5, .int (i32 x5)), (6, .int (i32 (gtf S ea eb x3 x4 x5 n))), (7, .int (i32 (n : Int)))]) E.1 E.2.1 dX6_gate_76 hl (by decide) rfl (fun ls hl => ?_)
                  refine lv_aload_n E.1 E.2.1 dX6_gate_78 rfl (lv_at hl 1 rfl) ?_
                  refine lv_iload_n E.1 E.2.1 dX6_gate_79 rfl (lv_at hl 2 rfl) ?_
                  refine lv_iload_n E.1 E.2.1 dX6_gate_80 rfl (lv_at hl 3 rfl) ?_
                  refine lv_iload E.1 E.2.1 dX6_gate_81 (lv_at hl 0 rfl) ?_
                  refine z_i2l E ⟨by omega, by omega⟩ dX6_gate_83 ?_
                  refine z_callV (As := [.int (i32 (ea : Int)), .int (i32 (eb : Int)), .long (i64 (ET S ea eb n))]) (rest := []) (n := 3) E X (lM_0 C cA am S U_14) rfl (m_echoAt l D cA B0 C am S U_14 hI hC ea eb (ET S ea eb n) (by omega) (by omega) (by unfold zrl; omega)) gX6_gate_X6_echoAt rfl (by decide +kernel) ⟨by decide, by decide⟩ rfl hl.1 rfl (Nat.le_of_ble_eq_true rfl) dX6_gate_84 ⟨by decide, by decide⟩ X.1 0 0 ⟨rfl, rfl⟩ (fun v H locs hv hS_16 => ?_)
                  obtain ⟨rfl, U_17, hC, hw⟩ := hv
                  replace X : zX D B0 (zj C (layM cA am S U_17)) s.heap H locs := ⟨hw, hS_16⟩
                  have f_18 := EC_rng (a := ea) (b := eb) (tick := (ET S ea eb n)) hI
                  refine lv_istore (lv' := [(9, .int (i32 (EC S ea eb (ET S ea eb n)))), (8, .int (i32 (ET S ea eb n))), (0, .ref (am 0)), (1, .int (i32 (ea : Int))), (2, .int (i32 (eb : Int))), (3, .int (i32 x3)), (4, .int (i32 x4)), (5, .int (i32 x5)), (6, .int (i32 (gtf S ea eb x3 x4 x5 n))), (7, .int (i32 (n : Int)))]) E.1 E.2.1 dX6_gate_87 hl (by decide) rfl (fun ls hl => ?_)
                  refine lv_iload E.1 E.2.1 dX6_gate_89 (lv_at hl 1 rfl) ?_
                  refine z_i2l E ⟨by omega, by omega⟩ dX6_gate_91 ?_
                  refine lv_iload_n E.1 E.2.1 dX6_gate_92 rfl (lv_at hl 5 rfl) ?_
                  refine z_i2l E ⟨by omega, by omega⟩ dX6_gate_93 ?_
                  refine lv_iload E.1 E.2.1 dX6_gate_94 (lv_at hl 6 rfl) ?_
                  refine z_i2l E ⟨by omega, by omega⟩ dX6_gate_96 ?_
                  refine z_callJ (As := [.long (i64 (ET S ea eb n)), .long (i64 x3), .long (i64 x4)]) (rest := []) (n := 3) E X (c_in l D cA B0 _ (ET S ea eb n) x3 x4 ⟨by omega, by omega⟩ ⟨by omega, by omega⟩ ⟨by omega, by omega⟩) gX6_gate_X6_in rfl (by decide +kernel) ⟨by decide, by decide⟩ rfl hl.1 rfl (Nat.le_of_ble_eq_true rfl) dX6_gate_97 ⟨by decide, by decide⟩ rfl 0 0 ⟨rfl, rfl⟩ (fun v H locs hv hS_19 => ?_)
                  obtain ⟨hH, z_20, rfl, ez_20⟩ := hv
                  subst hH
                  replace X := X.same hS_19
                  refine z_feq E 125 ⟨by omega, by omega⟩ dX6_gate_100 (by decide) (fun h100_21 => ?_) (fun h100_21 => ?_)
                  · refine z_iconst E dX6_gate_125 ?_
                    refine lv_istore (lv' := [(10, .int (i32 0)), (9, .int (i32 (EC S ea eb (ET S ea eb n)))), (8, .int (i32 (ET S ea eb n))), (0, .ref (am 0)), (1, .int (i32 (ea : Int))), (2, .int (i32 (eb : Int))), (3, .int (i32 x3)), (4, .int (i32 x4)), (5, .int (i32 x5)), (6, .int (i32 (gtf S ea eb x3 x4 x5 n))), (7, .int (i32 (n : Int)))]) E.1 E.2.1 dX6_gate_126 hl (by decide) rfl (fun ls hl => ?_)
                    refine lv_iload E.1 E.2.1 dX6_gate_128 (lv_at hl 0 rfl) ?_
                    refine z_feq E 152 ⟨by omega, by omega⟩ dX6_gate_130 (by decide) (fun h130_22 => ?_) (fun h130_22 => ?_)
                    · refine lv_iload E.1 E.2.1 dX6_gate_152 (lv_at hl 9 rfl) ?_
                      refine z_top (gtf S ea eb x3 x4 x5 (n + 1)) (by rw [gtf_S, if_neg (by omega)]) ?_
                      refine lv_istore (lv' := [(6, .int (i32 (gtf S ea eb x3 x4 x5 (n + 1)))), (10, .int (i32 0)), (9, .int (i32 (EC S ea eb (ET S ea eb n)))), (8, .int (i32 (ET S ea eb n))), (0, .ref (am 0)), (1, .int (i32 (ea : Int))), (2, .int (i32 (eb : Int))), (3, .int (i32 x3)), (4, .int (i32 x4)), (5, .int (i32 x5)), (7, .int (i32 (n : Int)))]) E.1 E.2.1 dX6_gate_154 hl (by decide) rfl (fun ls hl => ?_)
                      refine z_iinc (lv' := [(7, .int (i32 ((n + 1 : Nat) : Int))), (6, .int (i32 (gtf S ea eb x3 x4 x5 (n + 1)))), (10, .int (i32 0)), (9, .int (i32 (EC S ea eb (ET S ea eb n)))), (8, .int (i32 (ET S ea eb n))), (0, .ref (am 0)), (1, .int (i32 (ea : Int))), (2, .int (i32 (eb : Int))), (3, .int (i32 x3)), (4, .int (i32 x4)), (5, .int (i32 x5))]) E dX6_gate_156 hl (k := 10) rfl (by decide) rfl (fun ls hl => ?_)
                      refine lv_goto (tgt := 59) E.1 E.2.1 dX6_gate_159 (by decide) ?_
                      exact ih59 (n + 1) U_17 _ _ _ (by omega) (by omega) hC X (lv_sub hl [5, 6, 7, 8, 9, 10, 1, 0] rfl)
                    · exact absurd h130_22 (by decide)
                  · refine lv_iload E.1 E.2.1 dX6_gate_103 (lv_at hl 0 rfl) ?_
                    refine lv_iload E.1 E.2.1 dX6_gate_105 (lv_at hl 7 rfl) ?_
                    refine z_cge E 121 ⟨by omega, by omega⟩ ⟨by omega, by omega⟩ dX6_gate_107 (by decide) (fun h107_23 => ?_) (fun h107_23 => ?_)
                    · refine z_iconst E dX6_gate_121 ?_
                      refine lv_goto (tgt := 126) E.1 E.2.1 dX6_gate_122 (by decide) ?_
                      refine lv_istore (lv' := [(10, .int (i32 1)), (9, .int (i32 (EC S ea eb (ET S ea eb n)))), (8, .int (i32 (ET S ea eb n))), (0, .ref (am 0)), (1, .int (i32 (ea : Int))), (2, .int (i32 (eb : Int))), (3, .int (i32 x3)), (4, .int (i32 x4)), (5, .int (i32 x5)), (6, .int (i32 (gtf S ea eb x3 x4 x5 n))), (7, .int (i32 (n : Int)))]) E.1 E.2.1 dX6_gate_126 hl (by decide) rfl (fun ls hl => ?_)
                      refine lv_iload E.1 E.2.1 dX6_gate_128 (lv_at hl 0 rfl) ?_
                      refine z_feq E 152 ⟨by omega, by omega⟩ dX6_gate_130 (by decide) (fun h130_24 => ?_) (fun h130_24 => ?_)
                      · exact absurd h130_24 (by decide)
                      · refine lv_iload E.1 E.2.1 dX6_gate_133 (lv_at hl 9 rfl) ?_
                        refine z_ldc (v := (-99999)) (z := -99999) E (by decide +kernel) (by decide +kernel) dX6_gate_135 ?_
                        refine z_ceq E 147 ⟨by omega, by omega⟩ ⟨by omega, by omega⟩ dX6_gate_137 (by decide) (fun h137_25 => ?_) (fun h137_25 => ?_)
                        · refine lv_iload E.1 E.2.1 dX6_gate_147 (lv_at hl 2 rfl) ?_
                          refine lv_goto (tgt := 154) E.1 E.2.1 dX6_gate_149 (by decide) ?_
                          refine z_top (gtf S ea eb x3 x4 x5 (n + 1)) (by rw [gtf_S, if_pos (by omega)]) ?_
                          refine lv_istore (lv' := [(6, .int (i32 (gtf S ea eb x3 x4 x5 (n + 1)))), (10, .int (i32 1)), (9, .int (i32 (EC S ea eb (ET S ea eb n)))), (8, .int (i32 (ET S ea eb n))), (0, .ref (am 0)), (1, .int (i32 (ea : Int))), (2, .int (i32 (eb : Int))), (3, .int (i32 x3)), (4, .int (i32 x4)), (5, .int (i32 x5)), (7, .int (i32 (n : Int)))]) E.1 E.2.1 dX6_gate_154 hl (by decide) rfl (fun ls hl => ?_)
                          refine z_iinc (lv' := [(7, .int (i32 ((n + 1 : Nat) : Int))), (6, .int (i32 (gtf S ea eb x3 x4 x5 (n + 1)))), (10, .int (i32 1)), (9, .int (i32 (EC S ea eb (ET S ea eb n)))), (8, .int (i32 (ET S ea eb n))), (0, .ref (am 0)), (1, .int (i32 (ea : Int))), (2, .int (i32 (eb : Int))), (3, .int (i32 x3)), (4, .int (i32 x4)), (5, .int (i32 x5))]) E dX6_gate_156 hl (k := 10) rfl (by decide) rfl (fun ls hl => ?_)
                          refine lv_goto (tgt := 59) E.1 E.2.1 dX6_gate_159 (by decide) ?_
                          exact ih59 (n + 1) U_17 _ _ _ (by omega) (by omega) hC X (lv_sub hl [5, 6, 7, 8, 9, 10, 1, 0] rfl)
                        · refine lv_iload E.1 E.2.1 dX6_gate_140 (lv_at hl 2 rfl) ?_
                          refine lv_iload E.1 E.2.1 dX6_gate_142 (lv_at hl 9 rfl) ?_
                          refine z_cge E 152 ⟨by omega, by omega⟩ ⟨by omega, by omega⟩ dX6_gate_144 (by decide) (fun h144_26 => ?_) (fun h144_26 => ?_)
                          · refine lv_iload E.1 E.2.1 dX6_gate_152 (lv_at hl 9 rfl) ?_
                            refine z_top (gtf S ea eb x3 x4 x5 (n + 1)) (by rw [gtf_S, if_neg (by omega)]) ?_
                            refine lv_istore (lv' := [(6, .int (i32 (gtf S ea eb x3 x4 x5 (n + 1)))), (10, .int (i32 1)), (9, .int (i32 (EC S ea eb (ET S ea eb n)))), (8, .int (i32 (ET S ea eb n))), (0, .ref (am 0)), (1, .int (i32 (ea : Int))), (2, .int (i32 (eb : Int))), (3, .int (i32 x3)), (4, .int (i32 x4)), (5, .int (i32 x5)), (7, .int (i32 (n : Int)))]) E.1 E.2.1 dX6_gate_154 hl (by decide) rfl (fun ls hl => ?_)
                            refine z_iinc (lv' := [(7, .int (i32 ((n + 1 : Nat) : Int))), (6, .int (i32 (gtf S ea eb x3 x4 x5 (n + 1)))), (10, .int (i32 1)), (9, .int (i32 (EC S ea eb (ET S ea eb n)))), (8, .int (i32 (ET S ea eb n))), (0, .ref (am 0)), (1, .int (i32 (ea : Int))), (2, .int (i32 (eb : Int))), (3, .int (i32 x3)), (4, .int (i32 x4)), (5, .int (i32 x5))]) E dX6_gate_156 hl (k := 10) rfl (by decide) rfl (fun ls hl => ?_)
                            refine lv_goto (tgt := 59) E.1 E.2.1 dX6_gate_159 (by decide) ?_
                            exact ih59 (n + 1) U_17 _ _ _ (by omega) (by omega) hC X (lv_sub hl [5, 6, 7, 8, 9, 10, 1, 0] rfl)
                          · refine lv_iload E.1 E.2.1 dX6_gate_147 (lv_at hl 2 rfl) ?_
                            refine lv_goto (tgt := 154) E.1 E.2.1 dX6_gate_149 (by decide) ?_
                            refine z_top (gtf S ea eb x3 x4 x5 (n + 1)) (by rw [gtf_S, if_pos (by omega)]) ?_
                            refine lv_istore (lv' := [(6, .int (i32 (gtf S ea eb x3 x4 x5 (n + 1)))), (10, .int (i32 1)), (9, .int (i32 (EC S ea eb (ET S ea eb n)))), (8, .int (i32 (ET S ea eb n))), (0, .ref (am 0)), (1, .int (i32 (ea : Int))), (2, .int (i32 (eb : Int))), (3, .int (i32 x3)), (4, .int (i32 x4)), (5, .int (i32 x5)), (7, .int (i32 (n : Int)))]) E.1 E.2.1 dX6_gate_154 hl (by decide) rfl (fun ls hl => ?_)
                            refine z_iinc (lv' := [(7, .int (i32 ((n + 1 : Nat) : Int))), (6, .int (i32 (gtf S ea eb x3 x4 x5 (n + 1)))), (10, .int (i32 1)), (9, .int (i32 (EC S ea eb (ET S ea eb n)))), (8, .int (i32 (ET S ea eb n))), (0, .ref (am 0)), (1, .int (i32 (ea : Int))), (2, .int (i32 (eb : Int))), (3, .int (i32 x3)), (4, .int (i32 x4)), (5, .int (i32 x5))]) E dX6_gate_156 hl (k := 10) rfl (by decide) rfl (fun ls hl => ?_)
                            refine lv_goto (tgt := 59) E.1 E.2.1 dX6_gate_159 (by decide) ?_
                            exact ih59 (n + 1) U_17 _ _ _ (by omega) (by omega) hC X (lv_sub hl [5, 6, 7, 8, 9, 10, 1, 0] rfl)
                    · refine lv_iload E.1 E.2.1 dX6_gate_110 (lv_at hl 0 rfl) ?_
                      refine z_i2l E ⟨by omega, by omega⟩ dX6_gate_112 ?_
                      refine lv_iload E.1 E.2.1 dX6_gate_113 (lv_at hl 7 rfl) ?_
                      refine z_i2l E ⟨by omega, by omega⟩ dX6_gate_115 ?_
                      refine z_lneg E dX6_gate_116 ?_
                      refine z_lcmp E ⟨by omega, by omega⟩ ⟨by omega, by omega⟩ dX6_gate_117 (fun z_27 hrz_27 hlz_27 hez_27 => ?_)
                      unfold zr at hrz_27
                      refine z_fgt E 125 ⟨by omega, by omega⟩ dX6_gate_118 (by decide) (fun h118_28 => ?_) (fun h118_28 => ?_)
                      · refine z_iconst E dX6_gate_125 ?_
                        refine lv_istore (lv' := [(10, .int (i32 0)), (9, .int (i32 (EC S ea eb (ET S ea eb n)))), (8, .int (i32 (ET S ea eb n))), (0, .ref (am 0)), (1, .int (i32 (ea : Int))), (2, .int (i32 (eb : Int))), (3, .int (i32 x3)), (4, .int (i32 x4)), (5, .int (i32 x5)), (6, .int (i32 (gtf S ea eb x3 x4 x5 n))), (7, .int (i32 (n : Int)))]) E.1 E.2.1 dX6_gate_126 hl (by decide) rfl (fun ls hl => ?_)
                        refine lv_iload E.1 E.2.1 dX6_gate_128 (lv_at hl 0 rfl) ?_
                        refine z_feq E 152 ⟨by omega, by omega⟩ dX6_gate_130 (by decide) (fun h130_29 => ?_) (fun h130_29 => ?_)
                        · refine lv_iload E.1 E.2.1 dX6_gate_152 (lv_at hl 9 rfl) ?_
                          refine z_top (gtf S ea eb x3 x4 x5 (n + 1)) (by rw [gtf_S, if_neg (by omega)]) ?_
                          refine lv_istore (lv' := [(6, .int (i32 (gtf S ea eb x3 x4 x5 (n + 1)))), (10, .int (i32 0)), (9, .int (i32 (EC S ea eb (ET S ea eb n)))), (8, .int (i32 (ET S ea eb n))), (0, .ref (am 0)), (1, .int (i32 (ea : Int))), (2, .int (i32 (eb : Int))), (3, .int (i32 x3)), (4, .int (i32 x4)), (5, .int (i32 x5)), (7, .int (i32 (n : Int)))]) E.1 E.2.1 dX6_gate_154 hl (by decide) rfl (fun ls hl => ?_)
                          refine z_iinc (lv' := [(7, .int (i32 ((n + 1 : Nat) : Int))), (6, .int (i32 (gtf S ea eb x3 x4 x5 (n + 1)))), (10, .int (i32 0)), (9, .int (i32 (EC S ea eb (ET S ea eb n)))), (8, .int (i32 (ET S ea eb n))), (0, .ref (am 0)), (1, .int (i32 (ea : Int))), (2, .int (i32 (eb : Int))), (3, .int (i32 x3)), (4, .int (i32 x4)), (5, .int (i32 x5))]) E dX6_gate_156 hl (k := 10) rfl (by decide) rfl (fun ls hl => ?_)
                          refine lv_goto (tgt := 59) E.1 E.2.1 dX6_gate_159 (by decide) ?_
                          exact ih59 (n + 1) U_17 _ _ _ (by omega) (by omega) hC X (lv_sub hl [5, 6, 7, 8, 9, 10, 1, 0] rfl)
                        · exact absurd h130_29 (by decide)
                      · refine z_iconst E dX6_gate_121 ?_
                        refine lv_goto (tgt := 126) E.1 E.2.1 dX6_gate_122 (by decide) ?_
                        refine lv_istore (lv' := [(10, .int (i32 1)), (9, .int (i32 (EC S ea eb (ET S ea eb n)))), (8, .int (i32 (ET S ea eb n))), (0, .ref (am 0)), (1, .int (i32 (ea : Int))), (2, .int (i32 (eb : Int))), (3, .int (i32 x3)), (4, .int (i32 x4)), (5, .int (i32 x5)), (6, .int (i32 (gtf S ea eb x3 x4 x5 n))), (7, .int (i32 (n : Int)))]) E.1 E.2.1 dX6_gate_126 hl (by decide) rfl (fun ls hl => ?_)
                        refine lv_iload E.1 E.2.1 dX6_gate_128 (lv_at hl 0 rfl) ?_
                        refine z_feq E 152 ⟨by omega, by omega⟩ dX6_gate_130 (by decide) (fun h130_30 => ?_) (fun h130_30 => ?_)
                        · exact absurd h130_30 (by decide)
                        · refine lv_iload E.1 E.2.1 dX6_gate_133 (lv_at hl 9 rfl) ?_
                          refine z_ldc (v := (-99999)) (z := -99999) E (by decide +kernel) (by decide +kernel) dX6_gate_135 ?_
                          refine z_ceq E 147 ⟨by omega, by omega⟩ ⟨by omega, by omega⟩ dX6_gate_137 (by decide) (fun h137_31 => ?_) (fun h137_31 => ?_)
                          · refine lv_iload E.1 E.2.1 dX6_gate_147 (lv_at hl 2 rfl) ?_
                            refine lv_goto (tgt := 154) E.1 E.2.1 dX6_gate_149 (by decide) ?_
                            refine z_top (gtf S ea eb x3 x4 x5 (n + 1)) (by rw [gtf_S, if_pos (by omega)]) ?_
                            refine lv_istore (lv' := [(6, .int (i32 (gtf S ea eb x3 x4 x5 (n + 1)))), (10, .int (i32 1)), (9, .int (i32 (EC S ea eb (ET S ea eb n)))), (8, .int (i32 (ET S ea eb n))), (0, .ref (am 0)), (1, .int (i32 (ea : Int))), (2, .int (i32 (eb : Int))), (3, .int (i32 x3)), (4, .int (i32 x4)), (5, .int (i32 x5)), (7, .int (i32 (n : Int)))]) E.1 E.2.1 dX6_gate_154 hl (by decide) rfl (fun ls hl => ?_)
                            refine z_iinc (lv' := [(7, .int (i32 ((n + 1 : Nat) : Int))), (6, .int (i32 (gtf S ea eb x3 x4 x5 (n + 1)))), (10, .int (i32 1)), (9, .int (i32 (EC S ea eb (ET S ea eb n)))), (8, .int (i32 (ET S ea eb n))), (0, .ref (am 0)), (1, .int (i32 (ea : Int))), (2, .int (i32 (eb : Int))), (3, .int (i32 x3)), (4, .int (i32 x4)), (5, .int (i32 x5))]) E dX6_gate_156 hl (k := 10) rfl (by decide) rfl (fun ls hl => ?_)
                            refine lv_goto (tgt := 59) E.1 E.2.1 dX6_gate_159 (by decide) ?_
                            exact ih59 (n + 1) U_17 _ _ _ (by omega) (by omega) hC X (lv_sub hl [5, 6, 7, 8, 9, 10, 1, 0] rfl)
                          · refine lv_iload E.1 E.2.1 dX6_gate_140 (lv_at hl 2 rfl) ?_
                            refine lv_iload E.1 E.2.1 dX6_gate_142 (lv_at hl 9 rfl) ?_
                            refine z_cge E 152 ⟨by omega, by omega⟩ ⟨by omega, by omega⟩ dX6_gate_144 (by decide) (fun h144_32 => ?_) (fun h144_32 => ?_)
                            · refine lv_iload E.1 E.2.1 dX6_gate_152 (lv_at hl 9 rfl) ?_
                              refine z_top (gtf S ea eb x3 x4 x5 (n + 1)) (by rw [gtf_S, if_neg (by omega)]) ?_
                              refine lv_istore (lv' := [(6, .int (i32 (gtf S ea eb x3 x4 x5 (n + 1)))), (10, .int (i32 1)), (9, .int (i32 (EC S ea eb (ET S ea eb n)))), (8, .int (i32 (ET S ea eb n))), (0, .ref (am 0)), (1, .int (i32 (ea : Int))), (2, .int (i32 (eb : Int))), (3, .int (i32 x3)), (4, .int (i32 x4)), (5, .int (i32 x5)), (7, .int (i32 (n : Int)))]) E.1 E.2.1 dX6_gate_154 hl (by decide) rfl (fun ls hl => ?_)
                              refine z_iinc (lv' := [(7, .int (i32 ((n + 1 : Nat) : Int))), (6, .int (i32 (gtf S ea eb x3 x4 x5 (n + 1)))), (10, .int (i32 1)), (9, .int (i32 (EC S ea eb (ET S ea eb n)))), (8, .int (i32 (ET S ea eb n))), (0, .ref (am 0)), (1, .int (i32 (ea : Int))), (2, .int (i32 (eb : Int))), (3, .int (i32 x3)), (4, .int (i32 x4)), (5, .int (i32 x5))]) E dX6_gate_156 hl (k := 10) rfl (by decide) rfl (fun ls hl => ?_)
                              refine lv_goto (tgt := 59) E.1 E.2.1 dX6_gate_159 (by decide) ?_
                              exact ih59 (n + 1) U_17 _ _ _ (by omega) (by omega) hC X (lv_sub hl [5, 6, 7, 8, 9, 10, 1, 0] rfl)
                            · refine lv_iload E.1 E.2.1 dX6_gate_147 (lv_at hl 2 rfl) ?_
                              refine lv_goto (tgt := 154) E.1 E.2.1 dX6_gate_149 (by decide) ?_
                              refine z_top (gtf S ea eb x3 x4 x5 (n + 1)) (by rw [gtf_S, if_pos (by omega)]) ?_
                              refine lv_istore (lv' := [(6, .int (i32 (gtf S ea eb x3 x4 x5 (n + 1)))), (10, .int (i32 1)), (9, .int (i32 (EC S ea eb (ET S ea eb n)))), (8, .int (i32 (ET S ea eb n))), (0, .ref (am 0)), (1, .int (i32 (ea : Int))), (2, .int (i32 (eb : Int))), (3, .int (i32 x3)), (4, .int (i32 x4)), (5, .int (i32 x5)), (7, .int (i32 (n : Int)))]) E.1 E.2.1 dX6_gate_154 hl (by decide) rfl (fun ls hl => ?_)
                              refine z_iinc (lv' := [(7, .int (i32 ((n + 1 : Nat) : Int))), (6, .int (i32 (gtf S ea eb x3 x4 x5 (n + 1)))), (10, .int (i32 1)), (9, .int (i32 (EC S ea eb (ET S ea eb n)))), (8, .int (i32 (ET S ea eb n))), (0, .ref (am 0)), (1, .int (i32 (ea : Int))), (2, .int (i32 (eb : Int))), (3, .int (i32 x3)), (4, .int (i32 x4)), (5, .int (i32 x5))]) E dX6_gate_156 hl (k := 10) rfl (by decide) rfl (fun ls hl => ?_)
                              refine lv_goto (tgt := 59) E.1 E.2.1 dX6_gate_159 (by decide) ?_
                              exact ih59 (n + 1) U_17 _ _ _ (by omega) (by omega) hC X (lv_sub hl [5, 6, 7, 8, 9, 10, 1, 0] rfl)
            exact key59 (((S 8 0).toNat - 0) + 1) 0 U _ _ _ (by omega) (by omega) hC X (lv_sub hl [2, 3, 4, 5, 6, 7, 1, 0] rfl)
          · refine z_bipush E dX6_gate_49 (by decide +kernel) ?_
            have ef : fGate S x1 x2 x3 x4 x5 = (-2, S) := by
              unfold fGate
              try simp only [Int.toNat_natCast]
              repeat' split
              all_goals first | rfl | (exfalso; omega)
            exact z_ret E X hQ (⟨(congrArg (fun w => some (Value.int (i32 w.1))) ef).symm, U, by rw [ef]; exact hC, by rw [ef]; exact X.1⟩) dX6_gate_51
    · refine z_iconst E dX6_gate_21 ?_
      have ef : fGate S x1 x2 x3 x4 x5 = (-1, S) := by
        unfold fGate
        try simp only [Int.toNat_natCast]
        repeat' split
        all_goals first | rfl | (exfalso; omega)
      exact z_ret E X hQ (⟨(congrArg (fun w => some (Value.int (i32 w.1))) ef).symm, U, by rw [ef]; exact hC, by rw [ef]; exact X.1⟩) dX6_gate_22

abbrev rX6_focus : Room := { frames := 3, cells := 0, slots := 0, locals := 74 }
set_option maxHeartbeats 4000000 in
set_option maxRecDepth 100000 in
theorem M_focus (l : Launch) (D : va_G) (cA : Nat → ClassId) (B0 : Nat) (C : zL) (am : Nat → Nat) (S U : zS) (hI : SI S) (hC : MC S U) (x1 x2 : Int) (hx1 : zr x1) (hx2 : zr x2) : zM l yX6_focus wsX6_focus rX6_focus [.ref (am 0), .int (i32 x1), .int (i32 x2)] D cA B0 (zW D B0 (zj C (layM cA am S U))) (fun v H => v = some (.int (i32 (fFocus S x1 x2).1)) ∧ ∃ U : zS, MC (fFocus S x1 x2).2 U ∧ zW D B0 (zj C (layM cA am (fFocus S x1 x2).2 U)) H) := by
  refine z_met (cc := cX6_focus) (maxL := 5) (ret := (some .int)) (by decide) rfl (Nat.le_of_ble_eq_true rfl) ?_
  intro p e s m args below meth c ls Q hQ E hP hB hS hl
  have hl : lv_has ls 5 [(0, .ref (am 0)), (1, .int (i32 x1)), (2, .int (i32 x2))] := hl
  have iX6 : ∀ w ∈ u_ws RX6 TX6 28, w ∈ wsX6_focus := by decide +kernel
  have X : zX D B0 (zj C (layM cA am S U)) s.heap s.heap [] := ⟨hP, hS⟩
  have hI0 := hI.1
  unfold SI0 at hI0
  obtain ⟨b1, b2, b3, b4, b5, b8, b17, b19, b7⟩ := hI0
  unfold zr at hx1 hx2
  refine lv_aload_n E.1 E.2.1 dX6_focus_0 rfl (lv_at hl 0 rfl) ?_
  refine z_iconst E dX6_focus_1 ?_
  refine z_put E X (lM_0 C cA am S U) rfl iX6 tyX6 tyX6_ok nmX6 0 (by decide) (by decide +kernel) rfl rfl rfl (Nat.le_of_ble_eq_true rfl) dX6_focus_2 (fun H locs X => ?_)
  have X := mp_0 X
  have hC : MC S (zs U 0 0 0) := MC_own hC
  generalize zs U 0 0 0 = U at X hC
  refine lv_aload_n E.1 E.2.1 dX6_focus_5 rfl (lv_at hl 0 rfl) ?_
  refine lv_iload_n E.1 E.2.1 dX6_focus_6 rfl (lv_at hl 1 rfl) ?_
  refine lv_iload_n E.1 E.2.1 dX6_focus_7 rfl (lv_at hl 2 rfl) ?_
  refine z_callV (As := [.int (i32 x1), .int (i32 x2)]) (rest := []) (n := 2) E X (lM_0 C cA am S U) rfl (m_isPlace l D cA B0 C am S U hI.1 x1 x2 ⟨by omega, by omega⟩ ⟨by omega, by omega⟩) gX6_focus_X6_isPlace rfl (by decide +kernel) ⟨by decide, by decide⟩ rfl hl.1 rfl (Nat.le_of_ble_eq_true rfl) dX6_focus_8 ⟨by decide, by decide⟩ X.1 0 0 ⟨rfl, rfl⟩ (fun v H locs hv hS_1 => ?_)
  obtain ⟨⟨z_2, rfl, ez_2⟩, hw⟩ := hv
  replace X : zX D B0 (zj C (layM cA am S U)) s.heap H locs := ⟨hw, hS_1⟩
  refine z_fne E 17 ⟨by omega, by omega⟩ dX6_focus_11 (by decide) (fun h11_3 => ?_) (fun h11_3 => ?_)
  · refine lv_aload_n E.1 E.2.1 dX6_focus_17 rfl (lv_at hl 0 rfl) ?_
    refine z_callV (As := []) (rest := []) (n := 0) E X (lM_0 C cA am S U) rfl (m_working l D cA B0 C am S U hI.1) gX6_focus_X6_working rfl (by decide +kernel) ⟨by decide, by decide⟩ rfl hl.1 rfl (Nat.le_of_ble_eq_true rfl) dX6_focus_18 ⟨by decide, by decide⟩ X.1 0 0 ⟨rfl, rfl⟩ (fun v H locs hv hS_4 => ?_)
    obtain ⟨rfl, hw⟩ := hv
    replace X : zX D B0 (zj C (layM cA am S U)) s.heap H locs := ⟨hw, hS_4⟩
    have f_5 := WK_rng (S := S) hI.1
    refine z_top (WK S) rfl ?_
    refine z_fne E 27 ⟨by omega, by omega⟩ dX6_focus_21 (by decide) (fun h21_6 => ?_) (fun h21_6 => ?_)
    · obtain ⟨x, rfl⟩ : ∃ x : Nat, x1 = (x : Int) := ⟨x1.toNat, by omega⟩
      obtain ⟨y, rfl⟩ : ∃ y : Nat, x2 = (y : Int) := ⟨x2.toNat, by omega⟩
      refine z_iconst E dX6_focus_27 ?_
      refine z_top (mst S x y 0) (rfl) ?_
      refine lv_istore_n (lv' := [(3, .int (i32 (mst S x y 0))), (0, .ref (am 0)), (1, .int (i32 (x : Int))), (2, .int (i32 (y : Int)))]) E.1 E.2.1 dX6_focus_28 rfl hl (by decide) rfl (fun ls hl => ?_)
      refine z_iconst E dX6_focus_29 ?_
      refine z_top (0 : Int) (rfl) ?_
      refine lv_istore (lv' := [(4, .int (i32 (0 : Int))), (3, .int (i32 (mst S x y 0))), (0, .ref (am 0)), (1, .int (i32 (x : Int))), (2, .int (i32 (y : Int)))]) E.1 E.2.1 dX6_focus_30 hl (by decide) rfl (fun ls hl => ?_)
      have key32 : ∀ (N : Nat) (n : Nat) (U : zS) (H : Heap) (locs : List Loc) (ls : Array Slot), ((S 5 0).toNat - n) < N → ((n : Int) ≤ S 5 0) → (MC S U) → zX D B0 (zj C (layM cA am S U)) s.heap H locs → lv_has ls 5 [(0, .ref (am 0)), (1, .int (i32 (x : Int))), (2, .int (i32 (y : Int))), (3, .int (i32 (mst S x y n))), (4, .int (i32 (n : Int)))] → W p l e rX6_focus s m args below meth c H locs 0 0 Q (F0 m 32 ls []) := by
        intro N
        induction N with
        | zero => intros; omega
        | succ N ih32 =>
          intro n U H locs ls hN hn hC X hl
          refine lv_iload E.1 E.2.1 dX6_focus_32 (lv_at hl 4 rfl) ?_
          refine lv_aload_n E.1 E.2.1 dX6_focus_34 rfl (lv_at hl 0 rfl) ?_
          refine z_get E X (lM_0 C cA am S U) rfl iX6 5 (by decide) (by decide +kernel) (v := .int (i32 (S 5 0))) rfl dX6_focus_35 ?_
          refine z_cge E 82 ⟨by omega, by omega⟩ ⟨by omega, by omega⟩ dX6_focus_38 (by decide) (fun h38_7 => ?_) (fun h38_7 => ?_)
          · have en : (S 5 0).toNat = n := by omega
            rw [← en] at hl
            refine z_iconst E dX6_focus_82 ?_
            refine z_top (0 : Int) (rfl) ?_
            refine lv_istore (lv' := [(4, .int (i32 (0 : Int))), (0, .ref (am 0)), (1, .int (i32 (x : Int))), (2, .int (i32 (y : Int))), (3, .int (i32 (mst S x y (S 5 0).toNat)))]) E.1 E.2.1 dX6_focus_83 hl (by decide) rfl (fun ls hl => ?_)
            have key85 : ∀ (N : Nat) (n : Nat) (U : zS) (H : Heap) (locs : List Loc) (ls : Array Slot), ((S 5 0).toNat - n) < N → ((n : Int) ≤ S 5 0) → (MC (dly S x y (mst S x y (S 5 0).toNat) n) U) → zX D B0 (zj C (layM cA am (dly S x y (mst S x y (S 5 0).toNat) n) U)) s.heap H locs → lv_has ls 5 [(0, .ref (am 0)), (1, .int (i32 (x : Int))), (2, .int (i32 (y : Int))), (3, .int (i32 (mst S x y (S 5 0).toNat))), (4, .int (i32 (n : Int)))] → W p l e rX6_focus s m args below meth c H locs 0 0 Q (F0 m 85 ls []) := by
              intro N
              induction N with
              | zero => intros; omega
              | succ N ih85 =>
                intro n U H locs ls hN hn hC X hl
                refine lv_iload E.1 E.2.1 dX6_focus_85 (lv_at hl 4 rfl) ?_
                refine lv_aload_n E.1 E.2.1 dX6_focus_87 rfl (lv_at hl 0 rfl) ?_
                refine z_get E X (lM_0 C cA am (dly S x y (mst S x y (S 5 0).toNat) n) U) rfl iX6 5 (by decide) (by decide +kernel) (v := .int (i32 ((dly S x y (mst S x y (S 5 0).toNat) n) 5 0))) rfl dX6_focus_88 ?_
                refine z_top (S 5 0) (by rw [dly_k (by decide)]) ?_
                refine z_cge E 117 ⟨by omega, by omega⟩ ⟨by omega, by omega⟩ dX6_focus_91 (by decide) (fun h91_8 => ?_) (fun h91_8 => ?_)
                · refine lv_aload_n E.1 E.2.1 dX6_focus_117 rfl (lv_at hl 0 rfl) ?_
                  refine z_iconst E dX6_focus_118 ?_
                  refine z_put E X (lM_0 C cA am (dly S x y (mst S x y (S 5 0).toNat) n) U) rfl iX6 tyX6 tyX6_ok nmX6 17 (by decide) (by decide +kernel) rfl (z_nb (by omega)).1 (z_nb (by omega)).2 (Nat.le_of_ble_eq_true rfl) dX6_focus_119 (fun H locs X => ?_)
                  have X := mp_17 X
                  refine lv_iload_n E.1 E.2.1 dX6_focus_122 rfl (lv_at hl 3 rfl) ?_
                  have ef : fFocus S (x : Int) (y : Int) = (mst S x y (S 5 0).toNat, zs (dly S x y (mst S x y (S 5 0).toNat) n) 17 0 1) := by
                    unfold fFocus
                    rw [if_neg (by omega), if_neg (by omega)]
                    simp only [Int.toNat_natCast]
                    rw [show n = (S 5 0).toNat by omega]
                  exact z_ret E X hQ (⟨(congrArg (fun w => some (Value.int (i32 w.1))) ef).symm, U, by rw [ef]; exact MC_k (S := dly S x y (mst S x y (S 5 0).toNat) n) rfl rfl rfl rfl rfl hC, by rw [ef]; exact X.1⟩) dX6_focus_123
                · have hmr := mst_rng (x := x) (y := y) hI (by omega) (by omega) (S 5 0).toNat (by omega)
                  have hI2 : SI (dly S x y (mst S x y (S 5 0).toNat) n) := SI_dly hI (by omega) (by omega) hmr (by omega)
                  have d1 : dly S x y (mst S x y (S 5 0).toNat) n 1 0 = S 1 0 := by rw [dly_k (by decide)]
                  have d2 : dly S x y (mst S x y (S 5 0).toNat) n 2 0 = S 2 0 := by rw [dly_k (by decide)]
                  have d5 : dly S x y (mst S x y (S 5 0).toNat) n 5 0 = S 5 0 := by rw [dly_k (by decide)]
                  refine lv_aload_n E.1 E.2.1 dX6_focus_94 rfl (lv_at hl 0 rfl) ?_
                  refine z_get E X (lM_0 C cA am (dly S x y (mst S x y (S 5 0).toNat) n) U) rfl iX6 18 (by decide) (by decide +kernel) (v := .ref (am 18)) rfl dX6_focus_95 ?_
                  refine lv_iload E.1 E.2.1 dX6_focus_98 (lv_at hl 4 rfl) ?_
                  refine lv_iload_n E.1 E.2.1 dX6_focus_100 rfl (lv_at hl 3 rfl) ?_
                  refine lv_aload_n E.1 E.2.1 dX6_focus_101 rfl (lv_at hl 0 rfl) ?_
                  refine lv_iload E.1 E.2.1 dX6_focus_102 (lv_at hl 4 rfl) ?_
                  refine lv_iload_n E.1 E.2.1 dX6_focus_104 rfl (lv_at hl 1 rfl) ?_
                  refine lv_iload_n E.1 E.2.1 dX6_focus_105 rfl (lv_at hl 2 rfl) ?_
                  refine z_callV (As := [.int (i32 (n : Int)), .int (i32 (x : Int)), .int (i32 (y : Int))]) (rest := [.int (i32 (mst S x y (S 5 0).toNat)), .int (i32 (n : Int)), .ref (am 18)]) (n := 3) E X (lM_0 C cA am (dly S x y (mst S x y (S 5 0).toNat) n) U) rfl (m_timeOf l D cA B0 C am (dly S x y (mst S x y (S 5 0).toNat) n) U hI2 hC n x y (by omega) (by omega) (by omega)) gX6_focus_X6_timeOf rfl (by decide +kernel) ⟨by decide, by decide⟩ rfl hl.1 rfl (Nat.le_of_ble_eq_true rfl) dX6_focus_106 ⟨by decide, by decide⟩ X.1 0 0 ⟨rfl, rfl⟩ (fun v H locs hv hS_9 => ?_)
                  obtain ⟨rfl, U_10, hC, hw⟩ := hv
                  replace X : zX D B0 (zj C (layM cA am (dly S x y (mst S x y (S 5 0).toNat) n) U_10)) s.heap H locs := ⟨hw, hS_9⟩
                  have f_11 := TM_rng (x := x) hI2.1 hI2.2.1 (e := n) (y := y) (by omega) (by omega) (by omega)
                  refine z_top (TM S n x y) ((TM_cong (by rw [dly_k (by decide)]) (by rw [dly_k (by decide)]) (by rw [dly_k (by decide)]) (by rw [dly_k (by decide)])).1) ?_
                  refine z_isub E dX6_focus_109 ?_
                  refine z_iast E X (lM_18 C cA am (dly S x y (mst S x y (S 5 0).toNat) n) U_10) n (by omega) (by omega) (by decide) dX6_focus_110 (fun H locs X => ?_)
                  have X := ma_18 X
                  refine z_iinc (lv' := [(4, .int (i32 ((n + 1 : Nat) : Int))), (0, .ref (am 0)), (1, .int (i32 (x : Int))), (2, .int (i32 (y : Int))), (3, .int (i32 (mst S x y (S 5 0).toNat)))]) E dX6_focus_111 hl (k := 4) rfl (by decide) rfl (fun ls hl => ?_)
                  refine lv_goto (tgt := 85) E.1 E.2.1 dX6_focus_114 (by decide) ?_
                  exact ih85 (n + 1) U_10 _ _ _ (by omega) (by omega) (MC_k (S := dly S x y (mst S x y (S 5 0).toNat) n) (zs_ne (by decide)) (zs_ne (by decide)) (zs_ne (by decide)) (zs_ne (by decide)) (zs_ne (by decide)) hC) X (lv_sub hl [1, 2, 3, 4, 0] rfl)
            exact key85 (((S 5 0).toNat - 0) + 1) 0 U _ _ _ (by omega) (by omega) hC X (lv_sub hl [1, 2, 3, 4, 0] rfl)
          · have l1 := b7 n
            have hm1 := mst_rng (x := x) (y := y) hI (by omega) (by omega) n hn
            refine lv_aload_n E.1 E.2.1 dX6_focus_41 rfl (lv_at hl 0 rfl) ?_
            refine z_get E X (lM_0 C cA am S U) rfl iX6 7 (by decide) (by decide +kernel) (v := .ref (am 7)) rfl dX6_focus_42 ?_
            refine lv_iload E.1 E.2.1 dX6_focus_45 (lv_at hl 4 rfl) ?_
            refine z_zald E X (lM_7 C cA am S U) n (by omega) (by omega) (by decide) dX6_focus_47 ?_
            refine z_fne E 74 ⟨by omega, by omega⟩ dX6_focus_48 (by decide) (fun h48_12 => ?_) (fun h48_12 => ?_)
            · refine lv_iload_n E.1 E.2.1 dX6_focus_74 rfl (lv_at hl 3 rfl) ?_
              refine z_top (mst S x y (n + 1)) (by rw [mst_S, if_neg (by omega)]) ?_
              refine lv_istore_n (lv' := [(3, .int (i32 (mst S x y (n + 1)))), (0, .ref (am 0)), (1, .int (i32 (x : Int))), (2, .int (i32 (y : Int))), (4, .int (i32 (n : Int)))]) E.1 E.2.1 dX6_focus_75 rfl hl (by decide) rfl (fun ls hl => ?_)
              refine z_iinc (lv' := [(4, .int (i32 ((n + 1 : Nat) : Int))), (3, .int (i32 (mst S x y (n + 1)))), (0, .ref (am 0)), (1, .int (i32 (x : Int))), (2, .int (i32 (y : Int)))]) E dX6_focus_76 hl (k := 4) rfl (by decide) rfl (fun ls hl => ?_)
              refine lv_goto (tgt := 32) E.1 E.2.1 dX6_focus_79 (by decide) ?_
              exact ih32 (n + 1) U _ _ _ (by omega) (by omega) hC X (lv_sub hl [2, 3, 4, 1, 0] rfl)
            · refine lv_aload_n E.1 E.2.1 dX6_focus_51 rfl (lv_at hl 0 rfl) ?_
              refine lv_iload E.1 E.2.1 dX6_focus_52 (lv_at hl 4 rfl) ?_
              refine lv_iload_n E.1 E.2.1 dX6_focus_54 rfl (lv_at hl 1 rfl) ?_
              refine lv_iload_n E.1 E.2.1 dX6_focus_55 rfl (lv_at hl 2 rfl) ?_
              refine z_callV (As := [.int (i32 (n : Int)), .int (i32 (x : Int)), .int (i32 (y : Int))]) (rest := []) (n := 3) E X (lM_0 C cA am S U) rfl (m_timeOf l D cA B0 C am S U hI hC n x y (by omega) (by omega) (by omega)) gX6_focus_X6_timeOf rfl (by decide +kernel) ⟨by decide, by decide⟩ rfl hl.1 rfl (Nat.le_of_ble_eq_true rfl) dX6_focus_56 ⟨by decide, by decide⟩ X.1 0 0 ⟨rfl, rfl⟩ (fun v H locs hv hS_13 => ?_)
              obtain ⟨rfl, U_14, hC, hw⟩ := hv
              replace X : zX D B0 (zj C (layM cA am S U_14)) s.heap H locs := ⟨hw, hS_13⟩
              have f_15 := TM_rng (x := x) hI.1 hI.2.1 (e := n) (y := y) (by omega) (by omega) (by omega)
              refine lv_iload_n E.1 E.2.1 dX6_focus_59 rfl (lv_at hl 3 rfl) ?_
              refine z_cle E 74 ⟨by omega, by omega⟩ ⟨by omega, by omega⟩ dX6_focus_60 (by decide) (fun h60_16 => ?_) (fun h60_16 => ?_)
              · refine lv_iload_n E.1 E.2.1 dX6_focus_74 rfl (lv_at hl 3 rfl) ?_
                refine z_top (mst S x y (n + 1)) (by rw [mst_S, if_neg (by omega)]) ?_
                refine lv_istore_n (lv' := [(3, .int (i32 (mst S x y (n + 1)))), (0, .ref (am 0)), (1, .int (i32 (x : Int))), (2, .int (i32 (y : Int))), (4, .int (i32 (n : Int)))]) E.1 E.2.1 dX6_focus_75 rfl hl (by decide) rfl (fun ls hl => ?_)
                refine z_iinc (lv' := [(4, .int (i32 ((n + 1 : Nat) : Int))), (3, .int (i32 (mst S x y (n + 1)))), (0, .ref (am 0)), (1, .int (i32 (x : Int))), (2, .int (i32 (y : Int)))]) E dX6_focus_76 hl (k := 4) rfl (by decide) rfl (fun ls hl => ?_)
                refine lv_goto (tgt := 32) E.1 E.2.1 dX6_focus_79 (by decide) ?_
                exact ih32 (n + 1) U_14 _ _ _ (by omega) (by omega) hC X (lv_sub hl [2, 3, 4, 1, 0] rfl)
              · refine lv_aload_n E.1 E.2.1 dX6_focus_63 rfl (lv_at hl 0 rfl) ?_
                refine lv_iload E.1 E.2.1 dX6_focus_64 (lv_at hl 4 rfl) ?_
                refine lv_iload_n E.1 E.2.1 dX6_focus_66 rfl (lv_at hl 1 rfl) ?_
                refine lv_iload_n E.1 E.2.1 dX6_focus_67 rfl (lv_at hl 2 rfl) ?_
                refine z_callV (As := [.int (i32 (n : Int)), .int (i32 (x : Int)), .int (i32 (y : Int))]) (rest := []) (n := 3) E X (lM_0 C cA am S U_14) rfl (m_timeOf l D cA B0 C am S U_14 hI hC n x y (by omega) (by omega) (by omega)) gX6_focus_X6_timeOf rfl (by decide +kernel) ⟨by decide, by decide⟩ rfl hl.1 rfl (Nat.le_of_ble_eq_true rfl) dX6_focus_68 ⟨by decide, by decide⟩ X.1 0 0 ⟨rfl, rfl⟩ (fun v H locs hv hS_17 => ?_)
                obtain ⟨rfl, U_18, hC, hw⟩ := hv
                replace X : zX D B0 (zj C (layM cA am S U_18)) s.heap H locs := ⟨hw, hS_17⟩
                have f_19 := TM_rng (x := x) hI.1 hI.2.1 (e := n) (y := y) (by omega) (by omega) (by omega)
                refine lv_goto (tgt := 75) E.1 E.2.1 dX6_focus_71 (by decide) ?_
                refine z_top (mst S x y (n + 1)) (by rw [mst_S, if_pos (by omega)]) ?_
                refine lv_istore_n (lv' := [(3, .int (i32 (mst S x y (n + 1)))), (0, .ref (am 0)), (1, .int (i32 (x : Int))), (2, .int (i32 (y : Int))), (4, .int (i32 (n : Int)))]) E.1 E.2.1 dX6_focus_75 rfl hl (by decide) rfl (fun ls hl => ?_)
                refine z_iinc (lv' := [(4, .int (i32 ((n + 1 : Nat) : Int))), (3, .int (i32 (mst S x y (n + 1)))), (0, .ref (am 0)), (1, .int (i32 (x : Int))), (2, .int (i32 (y : Int)))]) E dX6_focus_76 hl (k := 4) rfl (by decide) rfl (fun ls hl => ?_)
                refine lv_goto (tgt := 32) E.1 E.2.1 dX6_focus_79 (by decide) ?_
                exact ih32 (n + 1) U_18 _ _ _ (by omega) (by omega) hC X (lv_sub hl [2, 3, 4, 1, 0] rfl)
      exact key32 (((S 5 0).toNat - 0) + 1) 0 U _ _ _ (by omega) (by omega) hC X (lv_sub hl [2, 3, 4, 1, 0] rfl)
    · refine z_bipush E dX6_focus_24 (by decide +kernel) ?_
      have ef : fFocus S x1 x2 = (-3, S) := by
        unfold fFocus
        try simp only [Int.toNat_natCast]
        repeat' split
        all_goals first | rfl | (exfalso; omega)
      exact z_ret E X hQ (⟨(congrArg (fun w => some (Value.int (i32 w.1))) ef).symm, U, by rw [ef]; exact hC, by rw [ef]; exact X.1⟩) dX6_focus_26
  · refine z_bipush E dX6_focus_14 (by decide +kernel) ?_
    have ef : fFocus S x1 x2 = (-2, S) := by
      unfold fFocus
      try simp only [Int.toNat_natCast]
      repeat' split
      all_goals first | rfl | (exfalso; omega)
    exact z_ret E X hQ (⟨(congrArg (fun w => some (Value.int (i32 w.1))) ef).symm, U, by rw [ef]; exact hC, by rw [ef]; exact X.1⟩) dX6_focus_16

abbrev rX6_sum : Room := { frames := 7, cells := 0, slots := 0, locals := 176 }
set_option maxHeartbeats 4000000 in
set_option maxRecDepth 100000 in
theorem M_sum (l : Launch) (D : va_G) (cA : Nat → ClassId) (B0 : Nat) (C : zL) (am : Nat → Nat) (S U : zS) (hI : SI S) (hC : MC S U) (x1 : Int) (hx1 : zr x1) : zM l yX6_sum wsX6_sum rX6_sum [.ref (am 0), .int (i32 x1)] D cA B0 (zW D B0 (zj C (layM cA am S U))) (fun v H => v = some (.int (i32 (fSum S x1).1)) ∧ ∃ U : zS, MC (fSum S x1).2 U ∧ zW D B0 (zj C (layM cA am (fSum S x1).2 U)) H) := by
  refine z_met (cc := cX6_sum) (maxL := 4) (ret := (some .int)) (by decide) rfl (Nat.le_of_ble_eq_true rfl) ?_
  intro p e s m args below meth c ls Q hQ E hP hB hS hl
  have hl : lv_has ls 4 [(0, .ref (am 0)), (1, .int (i32 x1))] := hl
  have iX6 : ∀ w ∈ u_ws RX6 TX6 28, w ∈ wsX6_sum := by decide +kernel
  have X : zX D B0 (zj C (layM cA am S U)) s.heap s.heap [] := ⟨hP, hS⟩
  have hI0 := hI.1
  unfold SI0 at hI0
  obtain ⟨b1, b2, b3, b4, b5, b8, b17, b19, b7⟩ := hI0
  unfold zr at hx1
  refine lv_aload_n E.1 E.2.1 dX6_sum_0 rfl (lv_at hl 0 rfl) ?_
  refine z_iconst E dX6_sum_1 ?_
  refine z_put E X (lM_0 C cA am S U) rfl iX6 tyX6 tyX6_ok nmX6 0 (by decide) (by decide +kernel) rfl rfl rfl (Nat.le_of_ble_eq_true rfl) dX6_sum_2 (fun H locs X => ?_)
  have X := mp_0 X
  have hC : MC S (zs U 0 0 0) := MC_own hC
  generalize zs U 0 0 0 = U at X hC
  refine lv_aload_n E.1 E.2.1 dX6_sum_5 rfl (lv_at hl 0 rfl) ?_
  refine z_get E X (lM_0 C cA am S U) rfl iX6 17 (by decide) (by decide +kernel) (v := .int (i32 (S 17 0))) rfl dX6_sum_6 ?_
  refine z_fne E 15 ⟨by omega, by omega⟩ dX6_sum_9 (by decide) (fun h9_1 => ?_) (fun h9_1 => ?_)
  · refine z_iconst E dX6_sum_15 ?_
    refine z_top (sumn (fsm S x1) 0) (rfl) ?_
    refine lv_istore_n (lv' := [(2, .int (i32 (sumn (fsm S x1) 0))), (0, .ref (am 0)), (1, .int (i32 x1))]) E.1 E.2.1 dX6_sum_16 rfl hl (by decide) rfl (fun ls hl => ?_)
    refine z_iconst E dX6_sum_17 ?_
    refine z_top (0 : Int) (rfl) ?_
    refine lv_istore_n (lv' := [(3, .int (i32 (0 : Int))), (2, .int (i32 (sumn (fsm S x1) 0))), (0, .ref (am 0)), (1, .int (i32 x1))]) E.1 E.2.1 dX6_sum_18 rfl hl (by decide) rfl (fun ls hl => ?_)
    have key19 : ∀ (N : Nat) (n : Nat) (U : zS) (H : Heap) (locs : List Loc) (ls : Array Slot), ((S 5 0).toNat - n) < N → ((n : Int) ≤ S 5 0) → (MC S U) → zX D B0 (zj C (layM cA am S U)) s.heap H locs → lv_has ls 4 [(0, .ref (am 0)), (1, .int (i32 x1)), (2, .int (i32 (sumn (fsm S x1) n))), (3, .int (i32 (n : Int)))] → W p l e rX6_sum s m args below meth c H locs 0 0 Q (F0 m 19 ls []) := by
      intro N
      induction N with
      | zero => intros; omega
      | succ N ih19 =>
        intro n U H locs ls hN hn hC X hl
        refine lv_iload_n E.1 E.2.1 dX6_sum_19 rfl (lv_at hl 3 rfl) ?_
        refine lv_aload_n E.1 E.2.1 dX6_sum_20 rfl (lv_at hl 0 rfl) ?_
        refine z_get E X (lM_0 C cA am S U) rfl iX6 5 (by decide) (by decide +kernel) (v := .int (i32 (S 5 0))) rfl dX6_sum_21 ?_
        refine z_cge E 64 ⟨by omega, by omega⟩ ⟨by omega, by omega⟩ dX6_sum_24 (by decide) (fun h24_2 => ?_) (fun h24_2 => ?_)
        · refine lv_iload_n E.1 E.2.1 dX6_sum_64 rfl (lv_at hl 2 rfl) ?_
          have ef : fSum S x1 = (sumn (fsm S x1) n, S) := by
            unfold fSum SM
            rw [if_neg (by omega), show (S 5 0).toNat = n by omega]
          exact z_ret E X hQ (⟨(congrArg (fun w => some (Value.int (i32 w.1))) ef).symm, U, by rw [ef]; exact hC, by rw [ef]; exact X.1⟩) dX6_sum_65
        · have l1 := b7 n
          have l2 := hI.2.2.2.2.2 n
          refine lv_iload_n E.1 E.2.1 dX6_sum_27 rfl (lv_at hl 2 rfl) ?_
          refine lv_aload_n E.1 E.2.1 dX6_sum_28 rfl (lv_at hl 0 rfl) ?_
          refine z_get E X (lM_0 C cA am S U) rfl iX6 7 (by decide) (by decide +kernel) (v := .ref (am 7)) rfl dX6_sum_29 ?_
          refine lv_iload_n E.1 E.2.1 dX6_sum_32 rfl (lv_at hl 3 rfl) ?_
          refine z_zald E X (lM_7 C cA am S U) n (by omega) (by omega) (by decide) dX6_sum_33 ?_
          refine z_feq E 41 ⟨by omega, by omega⟩ dX6_sum_34 (by decide) (fun h34_3 => ?_) (fun h34_3 => ?_)
          · refine lv_aload_n E.1 E.2.1 dX6_sum_41 rfl (lv_at hl 0 rfl) ?_
            refine lv_iload_n E.1 E.2.1 dX6_sum_42 rfl (lv_at hl 3 rfl) ?_
            refine lv_iload_n E.1 E.2.1 dX6_sum_43 rfl (lv_at hl 1 rfl) ?_
            refine z_i2l E ⟨by omega, by omega⟩ dX6_sum_44 ?_
            refine lv_aload_n E.1 E.2.1 dX6_sum_45 rfl (lv_at hl 0 rfl) ?_
            refine z_get E X (lM_0 C cA am S U) rfl iX6 18 (by decide) (by decide +kernel) (v := .ref (am 18)) rfl dX6_sum_46 ?_
            refine lv_iload_n E.1 E.2.1 dX6_sum_49 rfl (lv_at hl 3 rfl) ?_
            refine z_iald E X (lM_18 C cA am S U) n (by omega) (by omega) (by decide) dX6_sum_50 ?_
            refine z_i2l E ⟨by omega, by omega⟩ dX6_sum_51 ?_
            refine z_lsub E dX6_sum_52 ?_
            refine z_callV (As := [.int (i32 (n : Int)), .long (i64 (x1 - (S 18 n)))]) (rest := [.int (i32 (sumn (fsm S x1) n))]) (n := 2) E X (lM_0 C cA am S U) rfl (m_heardAt l D cA B0 C am S U hI hC n (x1 - (S 18 n)) (by omega) (by omega)) gX6_sum_X6_heardAt rfl (by decide +kernel) ⟨by decide, by decide⟩ rfl hl.1 rfl (Nat.le_of_ble_eq_true rfl) dX6_sum_53 ⟨by decide, by decide⟩ X.1 0 0 ⟨rfl, rfl⟩ (fun v H locs hv hS_4 => ?_)
            obtain ⟨rfl, U_5, hC, hw⟩ := hv
            replace X : zX D B0 (zj C (layM cA am S U_5)) s.heap H locs := ⟨hw, hS_4⟩
            refine z_iadd E dX6_sum_56 ?_
            refine z_top (sumn (fsm S x1) (n + 1)) (by rw [sumn_S, fsm, if_pos (by omega)]) ?_
            refine lv_istore_n (lv' := [(2, .int (i32 (sumn (fsm S x1) (n + 1)))), (0, .ref (am 0)), (1, .int (i32 x1)), (3, .int (i32 (n : Int)))]) E.1 E.2.1 dX6_sum_57 rfl hl (by decide) rfl (fun ls hl => ?_)
            refine z_iinc (lv' := [(3, .int (i32 ((n + 1 : Nat) : Int))), (2, .int (i32 (sumn (fsm S x1) (n + 1)))), (0, .ref (am 0)), (1, .int (i32 x1))]) E dX6_sum_58 hl (k := 3) rfl (by decide) rfl (fun ls hl => ?_)
            refine lv_goto (tgt := 19) E.1 E.2.1 dX6_sum_61 (by decide) ?_
            exact ih19 (n + 1) U_5 _ _ _ (by omega) (by omega) hC X (lv_sub hl [2, 3, 1, 0] rfl)
          · refine z_iconst E dX6_sum_37 ?_
            refine lv_goto (tgt := 56) E.1 E.2.1 dX6_sum_38 (by decide) ?_
            refine z_iadd E dX6_sum_56 ?_
            refine z_top (sumn (fsm S x1) (n + 1)) (by rw [sumn_S, fsm, if_neg (by omega)]) ?_
            refine lv_istore_n (lv' := [(2, .int (i32 (sumn (fsm S x1) (n + 1)))), (0, .ref (am 0)), (1, .int (i32 x1)), (3, .int (i32 (n : Int)))]) E.1 E.2.1 dX6_sum_57 rfl hl (by decide) rfl (fun ls hl => ?_)
            refine z_iinc (lv' := [(3, .int (i32 ((n + 1 : Nat) : Int))), (2, .int (i32 (sumn (fsm S x1) (n + 1)))), (0, .ref (am 0)), (1, .int (i32 x1))]) E dX6_sum_58 hl (k := 3) rfl (by decide) rfl (fun ls hl => ?_)
            refine lv_goto (tgt := 19) E.1 E.2.1 dX6_sum_61 (by decide) ?_
            exact ih19 (n + 1) U _ _ _ (by omega) (by omega) hC X (lv_sub hl [2, 3, 1, 0] rfl)
    exact key19 (((S 5 0).toNat - 0) + 1) 0 U _ _ _ (by omega) (by omega) hC X (lv_sub hl [2, 3, 1, 0] rfl)
  · refine z_bipush E dX6_sum_12 (by decide +kernel) ?_
    have ef : fSum S x1 = (-3, S) := by
      unfold fSum
      try simp only [Int.toNat_natCast]
      repeat' split
      all_goals first | rfl | (exfalso; omega)
    exact z_ret E X hQ (⟨(congrArg (fun w => some (Value.int (i32 w.1))) ef).symm, U, by rw [ef]; exact hC, by rw [ef]; exact X.1⟩) dX6_sum_14

abbrev rX6_board : Room := { frames := 6, cells := 0, slots := 0, locals := 151 }
set_option maxHeartbeats 4000000 in
set_option maxRecDepth 100000 in
theorem M_board (l : Launch) (D : va_G) (cA : Nat → ClassId) (B0 : Nat) (C : zL) (am : Nat → Nat) (S U : zS) (hI : SI S) (hC : MC S U) (x1 x2 : Int) (hx1 : zr x1) (hx2 : zr x2) : zM l yX6_board wsX6_board rX6_board [.ref (am 0), .int (i32 x1), .int (i32 x2)] D cA B0 (zW D B0 (zj C (layM cA am S U))) (fun v H => v = some (.int (i32 (fBoard S x1 x2).1)) ∧ ∃ U : zS, MC (fBoard S x1 x2).2 U ∧ zW D B0 (zj C (layM cA am (fBoard S x1 x2).2 U)) H) := by
  refine z_met (cc := cX6_board) (maxL := 6) (ret := (some .int)) (by decide) rfl (Nat.le_of_ble_eq_true rfl) ?_
  intro p e s m args below meth c ls Q hQ E hP hB hS hl
  have hl : lv_has ls 6 [(0, .ref (am 0)), (1, .int (i32 x1)), (2, .int (i32 x2))] := hl
  have iX6 : ∀ w ∈ u_ws RX6 TX6 28, w ∈ wsX6_board := by decide +kernel
  have X : zX D B0 (zj C (layM cA am S U)) s.heap s.heap [] := ⟨hP, hS⟩
  have hI0 := hI.1
  unfold SI0 at hI0
  obtain ⟨b1, b2, b3, b4, b5, b8, b17, b19, b7⟩ := hI0
  unfold zr at hx1 hx2
  refine lv_aload_n E.1 E.2.1 dX6_board_0 rfl (lv_at hl 0 rfl) ?_
  refine z_iconst E dX6_board_1 ?_
  refine z_put E X (lM_0 C cA am S U) rfl iX6 tyX6 tyX6_ok nmX6 0 (by decide) (by decide +kernel) rfl rfl rfl (Nat.le_of_ble_eq_true rfl) dX6_board_2 (fun H locs X => ?_)
  have X := mp_0 X
  have hC : MC S (zs U 0 0 0) := MC_own hC
  generalize zs U 0 0 0 = U at X hC
  refine lv_aload_n E.1 E.2.1 dX6_board_5 rfl (lv_at hl 0 rfl) ?_
  refine lv_iload_n E.1 E.2.1 dX6_board_6 rfl (lv_at hl 1 rfl) ?_
  refine lv_iload_n E.1 E.2.1 dX6_board_7 rfl (lv_at hl 2 rfl) ?_
  refine z_callV (As := [.int (i32 x1), .int (i32 x2)]) (rest := []) (n := 2) E X (lM_0 C cA am S U) rfl (m_isPlace l D cA B0 C am S U hI.1 x1 x2 ⟨by omega, by omega⟩ ⟨by omega, by omega⟩) gX6_board_X6_isPlace rfl (by decide +kernel) ⟨by decide, by decide⟩ rfl hl.1 rfl (Nat.le_of_ble_eq_true rfl) dX6_board_8 ⟨by decide, by decide⟩ X.1 0 0 ⟨rfl, rfl⟩ (fun v H locs hv hS_1 => ?_)
  obtain ⟨⟨z_2, rfl, ez_2⟩, hw⟩ := hv
  replace X : zX D B0 (zj C (layM cA am S U)) s.heap H locs := ⟨hw, hS_1⟩
  refine z_fne E 17 ⟨by omega, by omega⟩ dX6_board_11 (by decide) (fun h11_3 => ?_) (fun h11_3 => ?_)
  · obtain ⟨x, rfl⟩ : ∃ x : Nat, x1 = (x : Int) := ⟨x1.toNat, by omega⟩
    obtain ⟨y, rfl⟩ : ∃ y : Nat, x2 = (y : Int) := ⟨x2.toNat, by omega⟩
    refine z_iconst E dX6_board_17 ?_
    refine z_top (sumn (fbo2 S x y) 0) (rfl) ?_
    refine lv_istore_n (lv' := [(3, .int (i32 (sumn (fbo2 S x y) 0))), (0, .ref (am 0)), (1, .int (i32 (x : Int))), (2, .int (i32 (y : Int)))]) E.1 E.2.1 dX6_board_18 rfl hl (by decide) rfl (fun ls hl => ?_)
    refine z_iconst E dX6_board_19 ?_
    refine z_top (0 : Int) (rfl) ?_
    refine lv_istore (lv' := [(4, .int (i32 (0 : Int))), (3, .int (i32 (sumn (fbo2 S x y) 0))), (0, .ref (am 0)), (1, .int (i32 (x : Int))), (2, .int (i32 (y : Int)))]) E.1 E.2.1 dX6_board_20 hl (by decide) rfl (fun ls hl => ?_)
    have key22 : ∀ (N : Nat) (n1 : Nat) (U : zS) (H : Heap) (locs : List Loc) (ls : Array Slot), ((S 5 0).toNat - n1) < N → ((n1 : Int) ≤ S 5 0) → (MC S U) → zX D B0 (zj C (layM cA am S U)) s.heap H locs → lv_has ls 6 [(0, .ref (am 0)), (1, .int (i32 (x : Int))), (2, .int (i32 (y : Int))), (3, .int (i32 (sumn (fbo2 S x y) n1))), (4, .int (i32 (n1 : Int)))] → W p l e rX6_board s m args below meth c H locs 0 0 Q (F0 m 22 ls []) := by
      intro N
      induction N with
      | zero => intros; omega
      | succ N ih22 =>
        intro n1 U H locs ls hN hn1 hC X hl
        refine lv_iload E.1 E.2.1 dX6_board_22 (lv_at hl 4 rfl) ?_
        refine lv_aload_n E.1 E.2.1 dX6_board_24 rfl (lv_at hl 0 rfl) ?_
        refine z_get E X (lM_0 C cA am S U) rfl iX6 5 (by decide) (by decide +kernel) (v := .int (i32 (S 5 0))) rfl dX6_board_25 ?_
        refine z_cge E 84 ⟨by omega, by omega⟩ ⟨by omega, by omega⟩ dX6_board_28 (by decide) (fun h28_4 => ?_) (fun h28_4 => ?_)
        · refine lv_iload_n E.1 E.2.1 dX6_board_84 rfl (lv_at hl 3 rfl) ?_
          have ef : fBoard S (x : Int) (y : Int) = (sumn (fbo2 S x y) n1, S) := by
            unfold fBoard BO
            rw [if_neg (by omega)]
            simp only [Int.toNat_natCast]
            rw [show (S 5 0).toNat = n1 by omega]
          exact z_ret E X hQ (⟨(congrArg (fun w => some (Value.int (i32 w.1))) ef).symm, U, by rw [ef]; exact hC, by rw [ef]; exact X.1⟩) dX6_board_85
        · refine z_iconst E dX6_board_31 ?_
          refine z_top (0 : Int) (rfl) ?_
          refine lv_istore (lv' := [(5, .int (i32 (0 : Int))), (0, .ref (am 0)), (1, .int (i32 (x : Int))), (2, .int (i32 (y : Int))), (3, .int (i32 (sumn (fbo2 S x y) n1))), (4, .int (i32 (n1 : Int)))]) E.1 E.2.1 dX6_board_32 hl (by decide) rfl (fun ls hl => ?_)
          have ez : sumn (fbo2 S x y) n1 = sumn (fbo2 S x y) n1 + sumn (fbo S x y n1) 0 := by show _ = _ + 0; omega
          have hl : lv_has ls 6 [(5, .int (i32 (0 : Int))), (0, .ref (am 0)), (1, .int (i32 (x : Int))), (2, .int (i32 (y : Int))), (3, .int (i32 (sumn (fbo2 S x y) n1 + sumn (fbo S x y n1) 0))), (4, .int (i32 (n1 : Int)))] := by rw [← ez]; exact hl
          have key34 : ∀ (N : Nat) (n2 : Nat) (U : zS) (H : Heap) (locs : List Loc) (ls : Array Slot), ((S 5 0).toNat - n2) < N → ((n2 : Int) ≤ S 5 0) → (MC S U) → zX D B0 (zj C (layM cA am S U)) s.heap H locs → lv_has ls 6 [(0, .ref (am 0)), (1, .int (i32 (x : Int))), (2, .int (i32 (y : Int))), (3, .int (i32 (sumn (fbo2 S x y) n1 + sumn (fbo S x y n1) n2))), (4, .int (i32 (n1 : Int))), (5, .int (i32 (n2 : Int)))] → W p l e rX6_board s m args below meth c H locs 0 0 Q (F0 m 34 ls []) := by
            intro N
            induction N with
            | zero => intros; omega
            | succ N ih34 =>
              intro n2 U H locs ls hN hn2 hC X hl
              refine lv_iload E.1 E.2.1 dX6_board_34 (lv_at hl 5 rfl) ?_
              refine lv_aload_n E.1 E.2.1 dX6_board_36 rfl (lv_at hl 0 rfl) ?_
              refine z_get E X (lM_0 C cA am S U) rfl iX6 5 (by decide) (by decide +kernel) (v := .int (i32 (S 5 0))) rfl dX6_board_37 ?_
              refine z_cge E 78 ⟨by omega, by omega⟩ ⟨by omega, by omega⟩ dX6_board_40 (by decide) (fun h40_5 => ?_) (fun h40_5 => ?_)
              · have ez : sumn (fbo2 S x y) n1 + sumn (fbo S x y n1) n2 = sumn (fbo2 S x y) (n1 + 1) := by rw [sumn_S, fbo2, show (S 5 0).toNat = n2 by omega]
                have hl : lv_has ls 6 [(0, .ref (am 0)), (1, .int (i32 (x : Int))), (2, .int (i32 (y : Int))), (3, .int (i32 (sumn (fbo2 S x y) (n1 + 1)))), (4, .int (i32 (n1 : Int))), (5, .int (i32 (n2 : Int)))] := by rw [← ez]; exact hl
                refine z_iinc (lv' := [(4, .int (i32 ((n1 + 1 : Nat) : Int))), (0, .ref (am 0)), (1, .int (i32 (x : Int))), (2, .int (i32 (y : Int))), (3, .int (i32 (sumn (fbo2 S x y) (n1 + 1)))), (5, .int (i32 (n2 : Int)))]) E dX6_board_78 hl (k := 4) rfl (by decide) rfl (fun ls hl => ?_)
                refine lv_goto (tgt := 22) E.1 E.2.1 dX6_board_81 (by decide) ?_
                exact ih22 (n1 + 1) U _ _ _ (by omega) (by omega) hC X (lv_sub hl [1, 2, 3, 4, 0] rfl)
              · refine lv_iload_n E.1 E.2.1 dX6_board_43 rfl (lv_at hl 3 rfl) ?_
                refine lv_aload_n E.1 E.2.1 dX6_board_44 rfl (lv_at hl 0 rfl) ?_
                refine lv_iload E.1 E.2.1 dX6_board_45 (lv_at hl 4 rfl) ?_
                refine lv_iload E.1 E.2.1 dX6_board_47 (lv_at hl 5 rfl) ?_
                refine lv_aload_n E.1 E.2.1 dX6_board_49 rfl (lv_at hl 0 rfl) ?_
                refine lv_iload E.1 E.2.1 dX6_board_50 (lv_at hl 4 rfl) ?_
                refine lv_iload_n E.1 E.2.1 dX6_board_52 rfl (lv_at hl 1 rfl) ?_
                refine lv_iload_n E.1 E.2.1 dX6_board_53 rfl (lv_at hl 2 rfl) ?_
                refine z_callV (As := [.int (i32 (n1 : Int)), .int (i32 (x : Int)), .int (i32 (y : Int))]) (rest := [.int (i32 (n2 : Int)), .int (i32 (n1 : Int)), .ref (am 0), .int (i32 (sumn (fbo2 S x y) n1 + sumn (fbo S x y n1) n2))]) (n := 3) E X (lM_0 C cA am S U) rfl (m_timeOf l D cA B0 C am S U hI hC n1 x y (by omega) (by omega) (by omega)) gX6_board_X6_timeOf rfl (by decide +kernel) ⟨by decide, by decide⟩ rfl hl.1 rfl (Nat.le_of_ble_eq_true rfl) dX6_board_54 ⟨by decide, by decide⟩ X.1 0 0 ⟨rfl, rfl⟩ (fun v H locs hv hS_6 => ?_)
                obtain ⟨rfl, U_7, hC, hw⟩ := hv
                replace X : zX D B0 (zj C (layM cA am S U_7)) s.heap H locs := ⟨hw, hS_6⟩
                have f_8 := TM_rng (x := x) hI.1 hI.2.1 (e := n1) (y := y) (by omega) (by omega) (by omega)
                refine lv_aload_n E.1 E.2.1 dX6_board_57 rfl (lv_at hl 0 rfl) ?_
                refine lv_iload E.1 E.2.1 dX6_board_58 (lv_at hl 5 rfl) ?_
                refine lv_iload_n E.1 E.2.1 dX6_board_60 rfl (lv_at hl 1 rfl) ?_
                refine lv_iload_n E.1 E.2.1 dX6_board_61 rfl (lv_at hl 2 rfl) ?_
                refine z_callV (As := [.int (i32 (n2 : Int)), .int (i32 (x : Int)), .int (i32 (y : Int))]) (rest := [.int (i32 (TM S n1 x y)), .int (i32 (n2 : Int)), .int (i32 (n1 : Int)), .ref (am 0), .int (i32 (sumn (fbo2 S x y) n1 + sumn (fbo S x y n1) n2))]) (n := 3) E X (lM_0 C cA am S U_7) rfl (m_timeOf l D cA B0 C am S U_7 hI hC n2 x y (by omega) (by omega) (by omega)) gX6_board_X6_timeOf rfl (by decide +kernel) ⟨by decide, by decide⟩ rfl hl.1 rfl (Nat.le_of_ble_eq_true rfl) dX6_board_62 ⟨by decide, by decide⟩ X.1 0 0 ⟨rfl, rfl⟩ (fun v H locs hv hS_9 => ?_)
                obtain ⟨rfl, U_10, hC, hw⟩ := hv
                replace X : zX D B0 (zj C (layM cA am S U_10)) s.heap H locs := ⟨hw, hS_9⟩
                have f_11 := TM_rng (x := x) hI.1 hI.2.1 (e := n2) (y := y) (by omega) (by omega) (by omega)
                refine z_iadd E dX6_board_65 ?_
                refine z_i2l E ⟨by omega, by omega⟩ dX6_board_66 ?_
                refine z_callV (As := [.int (i32 (n1 : Int)), .int (i32 (n2 : Int)), .long (i64 ((TM S n1 x y) + (TM S n2 x y)))]) (rest := [.int (i32 (sumn (fbo2 S x y) n1 + sumn (fbo S x y n1) n2))]) (n := 3) E X (lM_0 C cA am S U_10) rfl (m_echoAt l D cA B0 C am S U_10 hI hC n1 n2 ((TM S n1 x y) + (TM S n2 x y)) (by omega) (by omega) (by unfold zrl; omega)) gX6_board_X6_echoAt rfl (by decide +kernel) ⟨by decide, by decide⟩ rfl hl.1 rfl (Nat.le_of_ble_eq_true rfl) dX6_board_67 ⟨by decide, by decide⟩ X.1 0 0 ⟨rfl, rfl⟩ (fun v H locs hv hS_12 => ?_)
                obtain ⟨rfl, U_13, hC, hw⟩ := hv
                replace X : zX D B0 (zj C (layM cA am S U_13)) s.heap H locs := ⟨hw, hS_12⟩
                have f_14 := EC_rng (a := n1) (b := n2) (tick := ((TM S n1 x y) + (TM S n2 x y))) hI
                refine z_iadd E dX6_board_70 ?_
                refine z_top (sumn (fbo2 S x y) n1 + sumn (fbo S x y n1) (n2 + 1)) (by rw [sumn_S, fbo]; omega) ?_
                refine lv_istore_n (lv' := [(3, .int (i32 (sumn (fbo2 S x y) n1 + sumn (fbo S x y n1) (n2 + 1)))), (0, .ref (am 0)), (1, .int (i32 (x : Int))), (2, .int (i32 (y : Int))), (4, .int (i32 (n1 : Int))), (5, .int (i32 (n2 : Int)))]) E.1 E.2.1 dX6_board_71 rfl hl (by decide) rfl (fun ls hl => ?_)
                refine z_iinc (lv' := [(5, .int (i32 ((n2 + 1 : Nat) : Int))), (3, .int (i32 (sumn (fbo2 S x y) n1 + sumn (fbo S x y n1) (n2 + 1)))), (0, .ref (am 0)), (1, .int (i32 (x : Int))), (2, .int (i32 (y : Int))), (4, .int (i32 (n1 : Int)))]) E dX6_board_72 hl (k := 5) rfl (by decide) rfl (fun ls hl => ?_)
                refine lv_goto (tgt := 34) E.1 E.2.1 dX6_board_75 (by decide) ?_
                exact ih34 (n2 + 1) U_13 _ _ _ (by omega) (by omega) hC X (lv_sub hl [2, 3, 4, 1, 5, 0] rfl)
          exact key34 (((S 5 0).toNat - 0) + 1) 0 U _ _ _ (by omega) (by omega) hC X (lv_sub hl [1, 2, 3, 4, 5, 0] rfl)
    exact key22 (((S 5 0).toNat - 0) + 1) 0 U _ _ _ (by omega) (by omega) hC X (lv_sub hl [2, 3, 4, 1, 0] rfl)
  · refine z_bipush E dX6_board_14 (by decide +kernel) ?_
    have ef : fBoard S x1 x2 = (-2, S) := by
      unfold fBoard
      try simp only [Int.toNat_natCast]
      repeat' split
      all_goals first | rfl | (exfalso; omega)
    exact z_ret E X hQ (⟨(congrArg (fun w => some (Value.int (i32 w.1))) ef).symm, U, by rw [ef]; exact hC, by rw [ef]; exact X.1⟩) dX6_board_16

