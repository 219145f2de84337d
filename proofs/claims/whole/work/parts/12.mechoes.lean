abbrev rX6_timeOf : Room := { frames := 2, cells := 0, slots := 0, locals := 51 }
set_option maxHeartbeats 4000000 in
set_option maxRecDepth 100000 in
theorem m_timeOf (l : Launch) (D : va_G) (cA : Nat → ClassId) (B0 : Nat) (C : zL) (am : Nat → Nat) (S U : zS) (hI : SI S) (hC : MC S U) (ea x y : Nat) (he : (ea : Int) < S 5 0) (hx : x ≤ 50) (hy : S 1 0 ≤ (y : Int) ∧ (y : Int) ≤ S 1 0 + S 2 0) : zM l yX6_timeOf wsX6_timeOf rX6_timeOf [.ref (am 0), .int (i32 (ea : Int)), .int (i32 (x : Int)), .int (i32 (y : Int))] D cA B0 (zW D B0 (zj C (layM cA am S U))) (fun v H => v = some (.int (i32 (TM S ea x y))) ∧ ∃ U : zS, MC S U ∧ zW D B0 (zj C (layM cA am S U)) H) := by
  refine z_met (cc := cX6_timeOf) (maxL := 4) (ret := (some .int)) (by decide) rfl (Nat.le_of_ble_eq_true rfl) ?_
  intro p e s m args below meth c ls Q hQ E hP hB hS hl
  have hl : lv_has ls 4 [(0, .ref (am 0)), (1, .int (i32 (ea : Int))), (2, .int (i32 (x : Int))), (3, .int (i32 (y : Int)))] := hl
  have iX6 : ∀ w ∈ u_ws RX6 TX6 28, w ∈ wsX6_timeOf := by decide +kernel
  have X : zX D B0 (zj C (layM cA am S U)) s.heap s.heap [] := ⟨hP, hS⟩
  have hI0 := hI.1
  unfold SI0 at hI0
  obtain ⟨b1, b2, b3, b4, b5, b8, b17, b19, b7⟩ := hI0
  refine lv_aload_n E.1 E.2.1 dX6_timeOf_0 rfl (lv_at hl 0 rfl) ?_
  refine lv_iload_n E.1 E.2.1 dX6_timeOf_1 rfl (lv_at hl 1 rfl) ?_
  refine lv_iload_n E.1 E.2.1 dX6_timeOf_2 rfl (lv_at hl 3 rfl) ?_
  refine z_callV (As := [.int (i32 (ea : Int)), .int (i32 (y : Int))]) (rest := []) (n := 2) E X (lM_0 C cA am S U) rfl (m_make l D cA B0 C am S U hI hC ea y (by omega) (by omega)) gX6_timeOf_X6_make rfl (by decide +kernel) ⟨by decide, by decide⟩ rfl hl.1 rfl (Nat.le_of_ble_eq_true rfl) dX6_timeOf_3 ⟨by decide, by decide⟩ X.1 0 0 ⟨rfl, rfl⟩ (fun v H locs hv hS_1 => ?_)
  obtain ⟨rfl, U_2, hC, hmade, hw⟩ := hv
  replace X : zX D B0 (zj C (layM cA am S U_2)) s.heap H locs := ⟨hw, hS_1⟩
  have htab : ∀ x : Nat, x < 51 → U_2 14 (51 * (51 * ea + y) + x) = TM S ea x y ∧ U_2 15 (51 * (51 * ea + y) + x) = BD S ea x y := by
    rcases hC (51 * ea + y) (by omega) with q | ⟨-, -, q⟩
    · omega
    · rw [show (51 * ea + y) / 51 = ea by omega, show (51 * ea + y) % 51 = y by omega] at q
      exact q
  refine lv_aload_n E.1 E.2.1 dX6_timeOf_6 rfl (lv_at hl 0 rfl) ?_
  refine z_get E X (lM_0 C cA am S U_2) rfl iX6 14 (by decide) (by decide +kernel) (v := .ref (am 14)) rfl dX6_timeOf_7 ?_
  refine z_bipush E dX6_timeOf_10 (by decide +kernel) ?_
  refine z_bipush E dX6_timeOf_12 (by decide +kernel) ?_
  refine lv_iload_n E.1 E.2.1 dX6_timeOf_14 rfl (lv_at hl 1 rfl) ?_
  refine z_imul E dX6_timeOf_15 ?_
  refine lv_iload_n E.1 E.2.1 dX6_timeOf_16 rfl (lv_at hl 3 rfl) ?_
  refine z_iadd E dX6_timeOf_17 ?_
  refine z_imul E dX6_timeOf_18 ?_
  refine lv_iload_n E.1 E.2.1 dX6_timeOf_19 rfl (lv_at hl 2 rfl) ?_
  refine z_iadd E dX6_timeOf_20 ?_
  refine z_iald E X (lM_14 C cA am S U_2) ((51 * ((51 * ea) + y)) + x) (by omega) (by omega) (by decide) dX6_timeOf_21 ?_
  refine z_top (TM S ea x y) ((htab x (by omega)).1) ?_
  exact z_ret E X hQ (⟨rfl, U_2, hC, X.1⟩) dX6_timeOf_22

abbrev rX6_least : Room := { frames := 3, cells := 0, slots := 0, locals := 74 }
set_option maxHeartbeats 4000000 in
set_option maxRecDepth 100000 in
theorem m_least (l : Launch) (D : va_G) (cA : Nat → ClassId) (B0 : Nat) (C : zL) (am : Nat → Nat) (S U : zS) (hI : SI S) (hC : MC S U) (ea eb x z y : Nat) (he : (ea : Int) < S 5 0) (hb : (eb : Int) < S 5 0) (hxz : x ≤ z) (hz : z ≤ 50) (hy : S 1 0 ≤ (y : Int) ∧ (y : Int) ≤ S 1 0 + S 2 0) : zM l yX6_least wsX6_least rX6_least [.ref (am 0), .int (i32 (ea : Int)), .int (i32 (eb : Int)), .int (i32 (x : Int)), .int (i32 (z : Int)), .int (i32 (y : Int))] D cA B0 (zW D B0 (zj C (layM cA am S U))) (fun v H => v = some (.int (i32 (LST S ea eb x (z - x) y))) ∧ ∃ U : zS, MC S U ∧ zW D B0 (zj C (layM cA am S U)) H) := by
  refine z_met (cc := cX6_least) (maxL := 9) (ret := (some .int)) (by decide) rfl (Nat.le_of_ble_eq_true rfl) ?_
  intro p e s m args below meth c ls Q hQ E hP hB hS hl
  have hl : lv_has ls 9 [(0, .ref (am 0)), (1, .int (i32 (ea : Int))), (2, .int (i32 (eb : Int))), (3, .int (i32 (x : Int))), (4, .int (i32 (z : Int))), (5, .int (i32 (y : Int)))] := hl
  have X : zX D B0 (zj C (layM cA am S U)) s.heap s.heap [] := ⟨hP, hS⟩
  have hI0 := hI.1
  unfold SI0 at hI0
  obtain ⟨b1, b2, b3, b4, b5, b8, b17, b19, b7⟩ := hI0
  refine lv_aload_n E.1 E.2.1 dX6_least_0 rfl (lv_at hl 0 rfl) ?_
  refine lv_iload_n E.1 E.2.1 dX6_least_1 rfl (lv_at hl 1 rfl) ?_
  refine lv_iload_n E.1 E.2.1 dX6_least_2 rfl (lv_at hl 3 rfl) ?_
  refine lv_iload E.1 E.2.1 dX6_least_3 (lv_at hl 5 rfl) ?_
  refine z_callV (As := [.int (i32 (ea : Int)), .int (i32 (x : Int)), .int (i32 (y : Int))]) (rest := []) (n := 3) E X (lM_0 C cA am S U) rfl (m_timeOf l D cA B0 C am S U hI hC ea x y (by omega) (by omega) (by omega)) gX6_least_X6_timeOf rfl (by decide +kernel) ⟨by decide, by decide⟩ rfl hl.1 rfl (Nat.le_of_ble_eq_true rfl) dX6_least_5 ⟨by decide, by decide⟩ X.1 0 0 ⟨rfl, rfl⟩ (fun v H locs hv hS_1 => ?_)
  obtain ⟨rfl, U_2, hC, hw⟩ := hv
  replace X : zX D B0 (zj C (layM cA am S U_2)) s.heap H locs := ⟨hw, hS_1⟩
  have f_3 := TM_rng (x := x) hI.1 hI.2.1 (e := ea) (y := y) (by omega) (by omega) (by omega)
  refine lv_aload_n E.1 E.2.1 dX6_least_8 rfl (lv_at hl 0 rfl) ?_
  refine lv_iload_n E.1 E.2.1 dX6_least_9 rfl (lv_at hl 2 rfl) ?_
  refine lv_iload_n E.1 E.2.1 dX6_least_10 rfl (lv_at hl 3 rfl) ?_
  refine lv_iload E.1 E.2.1 dX6_least_11 (lv_at hl 5 rfl) ?_
  refine z_callV (As := [.int (i32 (eb : Int)), .int (i32 (x : Int)), .int (i32 (y : Int))]) (rest := [.int (i32 (TM S ea x y))]) (n := 3) E X (lM_0 C cA am S U_2) rfl (m_timeOf l D cA B0 C am S U_2 hI hC eb x y (by omega) (by omega) (by omega)) gX6_least_X6_timeOf rfl (by decide +kernel) ⟨by decide, by decide⟩ rfl hl.1 rfl (Nat.le_of_ble_eq_true rfl) dX6_least_13 ⟨by decide, by decide⟩ X.1 0 0 ⟨rfl, rfl⟩ (fun v H locs hv hS_4 => ?_)
  obtain ⟨rfl, U_5, hC, hw⟩ := hv
  replace X : zX D B0 (zj C (layM cA am S U_5)) s.heap H locs := ⟨hw, hS_4⟩
  have f_6 := TM_rng (x := x) hI.1 hI.2.1 (e := eb) (y := y) (by omega) (by omega) (by omega)
  refine z_iadd E dX6_least_16 ?_
  refine z_top (minb (fd S ea eb x y) 0) (rfl) ?_
  refine lv_istore (lv' := [(6, .int (i32 (minb (fd S ea eb x y) 0))), (0, .ref (am 0)), (1, .int (i32 (ea : Int))), (2, .int (i32 (eb : Int))), (3, .int (i32 (x : Int))), (4, .int (i32 (z : Int))), (5, .int (i32 (y : Int)))]) E.1 E.2.1 dX6_least_17 hl (by decide) rfl (fun ls hl => ?_)
  refine lv_iload_n E.1 E.2.1 dX6_least_19 rfl (lv_at hl 4 rfl) ?_
  refine z_iconst E dX6_least_20 ?_
  refine z_iadd E dX6_least_21 ?_
  refine z_top ((x + 0 + 1 : Nat) : Int) (rfl) ?_
  refine lv_istore (lv' := [(7, .int (i32 ((x + 0 + 1 : Nat) : Int))), (6, .int (i32 (minb (fd S ea eb x y) 0))), (0, .ref (am 0)), (1, .int (i32 (ea : Int))), (2, .int (i32 (eb : Int))), (3, .int (i32 (x : Int))), (4, .int (i32 (z : Int))), (5, .int (i32 (y : Int)))]) E.1 E.2.1 dX6_least_22 hl (by decide) rfl (fun ls hl => ?_)
  have key24 : ∀ (N : Nat) (n : Nat) (U : zS) (H : Heap) (locs : List Loc) (ls : Array Slot), (z - (x + n)) < N → (x + n ≤ z) → (MC S U) → zX D B0 (zj C (layM cA am S U)) s.heap H locs → lv_has ls 9 [(0, .ref (am 0)), (1, .int (i32 (ea : Int))), (2, .int (i32 (eb : Int))), (3, .int (i32 (x : Int))), (4, .int (i32 (z : Int))), (5, .int (i32 (y : Int))), (6, .int (i32 (minb (fd S ea eb x y) n))), (7, .int (i32 ((x + n + 1 : Nat) : Int)))] → W p l e rX6_least s m args below meth c H locs 0 0 Q (F0 m 24 ls []) := by
    intro N
    induction N with
    | zero => intros; omega
    | succ N ih24 =>
      intro n U H locs ls hN hn hC X hl
      refine lv_iload E.1 E.2.1 dX6_least_24 (lv_at hl 7 rfl) ?_
      refine lv_iload E.1 E.2.1 dX6_least_26 (lv_at hl 4 rfl) ?_
      refine z_cgt E 74 ⟨by omega, by omega⟩ ⟨by omega, by omega⟩ dX6_least_28 (by decide) (fun h28_7 => ?_) (fun h28_7 => ?_)
      · refine lv_iload E.1 E.2.1 dX6_least_74 (lv_at hl 6 rfl) ?_
        exact z_ret E X hQ (⟨by rw [show z - x = n by omega]; rfl, U, hC, X.1⟩) dX6_least_76
      · have hfm := LST_rng (a := ea) (b := eb) (x := x) (n := n) (y := y) hI he hb (by omega) hy
        unfold LST at hfm
        have hfn : fd S ea eb x y (n + 1) = TM S ea (x + n + 1) y + TM S eb (x + n + 1) y := rfl
        refine lv_aload_n E.1 E.2.1 dX6_least_31 rfl (lv_at hl 0 rfl) ?_
        refine lv_iload_n E.1 E.2.1 dX6_least_32 rfl (lv_at hl 1 rfl) ?_
        refine lv_iload E.1 E.2.1 dX6_least_33 (lv_at hl 7 rfl) ?_
        refine lv_iload E.1 E.2.1 dX6_least_35 (lv_at hl 5 rfl) ?_
        refine z_callV (As := [.int (i32 (ea : Int)), .int (i32 ((x + n + 1 : Nat) : Int)), .int (i32 (y : Int))]) (rest := []) (n := 3) E X (lM_0 C cA am S U) rfl (m_timeOf l D cA B0 C am S U hI hC ea (x + n + 1) y (by omega) (by omega) (by omega)) gX6_least_X6_timeOf rfl (by decide +kernel) ⟨by decide, by decide⟩ rfl hl.1 rfl (Nat.le_of_ble_eq_true rfl) dX6_least_37 ⟨by decide, by decide⟩ X.1 0 0 ⟨rfl, rfl⟩ (fun v H locs hv hS_8 => ?_)
        obtain ⟨rfl, U_9, hC, hw⟩ := hv
        replace X : zX D B0 (zj C (layM cA am S U_9)) s.heap H locs := ⟨hw, hS_8⟩
        have f_10 := TM_rng (x := (x + n + 1)) hI.1 hI.2.1 (e := ea) (y := y) (by omega) (by omega) (by omega)
        refine lv_aload_n E.1 E.2.1 dX6_least_40 rfl (lv_at hl 0 rfl) ?_
        refine lv_iload_n E.1 E.2.1 dX6_least_41 rfl (lv_at hl 2 rfl) ?_
        refine lv_iload E.1 E.2.1 dX6_least_42 (lv_at hl 7 rfl) ?_
        refine lv_iload E.1 E.2.1 dX6_least_44 (lv_at hl 5 rfl) ?_
        refine z_callV (As := [.int (i32 (eb : Int)), .int (i32 ((x + n + 1 : Nat) : Int)), .int (i32 (y : Int))]) (rest := [.int (i32 (TM S ea (x + n + 1) y))]) (n := 3) E X (lM_0 C cA am S U_9) rfl (m_timeOf l D cA B0 C am S U_9 hI hC eb (x + n + 1) y (by omega) (by omega) (by omega)) gX6_least_X6_timeOf rfl (by decide +kernel) ⟨by decide, by decide⟩ rfl hl.1 rfl (Nat.le_of_ble_eq_true rfl) dX6_least_46 ⟨by decide, by decide⟩ X.1 0 0 ⟨rfl, rfl⟩ (fun v H locs hv hS_11 => ?_)
        obtain ⟨rfl, U_12, hC, hw⟩ := hv
        replace X : zX D B0 (zj C (layM cA am S U_12)) s.heap H locs := ⟨hw, hS_11⟩
        have f_13 := TM_rng (x := (x + n + 1)) hI.1 hI.2.1 (e := eb) (y := y) (by omega) (by omega) (by omega)
        refine z_iadd E dX6_least_49 ?_
        refine z_top (fd S ea eb x y (n + 1)) (rfl) ?_
        refine lv_istore (lv' := [(8, .int (i32 (fd S ea eb x y (n + 1)))), (0, .ref (am 0)), (1, .int (i32 (ea : Int))), (2, .int (i32 (eb : Int))), (3, .int (i32 (x : Int))), (4, .int (i32 (z : Int))), (5, .int (i32 (y : Int))), (6, .int (i32 (minb (fd S ea eb x y) n))), (7, .int (i32 ((x + n + 1 : Nat) : Int)))]) E.1 E.2.1 dX6_least_50 hl (by decide) rfl (fun ls hl => ?_)
        refine lv_iload E.1 E.2.1 dX6_least_52 (lv_at hl 0 rfl) ?_
        refine lv_iload E.1 E.2.1 dX6_least_54 (lv_at hl 7 rfl) ?_
        refine z_cge E 64 ⟨by omega, by omega⟩ ⟨by omega, by omega⟩ dX6_least_56 (by decide) (fun h56_14 => ?_) (fun h56_14 => ?_)
        · refine lv_iload E.1 E.2.1 dX6_least_64 (lv_at hl 7 rfl) ?_
          refine z_top (minb (fd S ea eb x y) (n + 1)) (by rw [minb_S, if_neg (by omega)]) ?_
          refine lv_istore (lv' := [(6, .int (i32 (minb (fd S ea eb x y) (n + 1)))), (8, .int (i32 (fd S ea eb x y (n + 1)))), (0, .ref (am 0)), (1, .int (i32 (ea : Int))), (2, .int (i32 (eb : Int))), (3, .int (i32 (x : Int))), (4, .int (i32 (z : Int))), (5, .int (i32 (y : Int))), (7, .int (i32 ((x + n + 1 : Nat) : Int)))]) E.1 E.2.1 dX6_least_66 hl (by decide) rfl (fun ls hl => ?_)
          refine z_iinc (lv' := [(7, .int (i32 ((x + n + 1 + 1 : Nat) : Int))), (6, .int (i32 (minb (fd S ea eb x y) (n + 1)))), (8, .int (i32 (fd S ea eb x y (n + 1)))), (0, .ref (am 0)), (1, .int (i32 (ea : Int))), (2, .int (i32 (eb : Int))), (3, .int (i32 (x : Int))), (4, .int (i32 (z : Int))), (5, .int (i32 (y : Int)))]) E dX6_least_68 hl (k := 8) rfl (by decide) rfl (fun ls hl => ?_)
          refine lv_goto (tgt := 24) E.1 E.2.1 dX6_least_71 (by decide) ?_
          exact ih24 (n + 1) U_12 _ _ _ (by omega) (by omega) hC X (lv_sub hl [3, 4, 5, 6, 7, 8, 1, 0] rfl)
        · refine lv_iload E.1 E.2.1 dX6_least_59 (lv_at hl 0 rfl) ?_
          refine lv_goto (tgt := 66) E.1 E.2.1 dX6_least_61 (by decide) ?_
          refine z_top (minb (fd S ea eb x y) (n + 1)) (by rw [minb_S, if_pos (by omega)]) ?_
          refine lv_istore (lv' := [(6, .int (i32 (minb (fd S ea eb x y) (n + 1)))), (8, .int (i32 (fd S ea eb x y (n + 1)))), (0, .ref (am 0)), (1, .int (i32 (ea : Int))), (2, .int (i32 (eb : Int))), (3, .int (i32 (x : Int))), (4, .int (i32 (z : Int))), (5, .int (i32 (y : Int))), (7, .int (i32 ((x + n + 1 : Nat) : Int)))]) E.1 E.2.1 dX6_least_66 hl (by decide) rfl (fun ls hl => ?_)
          refine z_iinc (lv' := [(7, .int (i32 ((x + n + 1 + 1 : Nat) : Int))), (6, .int (i32 (minb (fd S ea eb x y) (n + 1)))), (8, .int (i32 (fd S ea eb x y (n + 1)))), (0, .ref (am 0)), (1, .int (i32 (ea : Int))), (2, .int (i32 (eb : Int))), (3, .int (i32 (x : Int))), (4, .int (i32 (z : Int))), (5, .int (i32 (y : Int)))]) E dX6_least_68 hl (k := 8) rfl (by decide) rfl (fun ls hl => ?_)
          refine lv_goto (tgt := 24) E.1 E.2.1 dX6_least_71 (by decide) ?_
          exact ih24 (n + 1) U_12 _ _ _ (by omega) (by omega) hC X (lv_sub hl [3, 4, 5, 6, 7, 8, 1, 0] rfl)
  exact key24 ((z - (x + 0)) + 1) 0 U_5 _ _ _ (by omega) (by omega) hC X (lv_sub hl [2, 3, 4, 5, 6, 7, 1, 0] rfl)

abbrev rX6_depthOf : Room := { frames := 1, cells := 0, slots := 0, locals := 20 }
set_option maxHeartbeats 4000000 in
set_option maxRecDepth 100000 in
theorem m_depthOf (l : Launch) (D : va_G) (cA : Nat → ClassId) (B0 : Nat) (C : zL) (am : Nat → Nat) (S U : zS) (hI : SI S) (t : Nat) (ht : (t : Int) < S 8 0) : zM l yX6_depthOf wsX6_depthOf rX6_depthOf [.ref (am 0), .int (i32 (t : Int))] D cA B0 (zW D B0 (zj C (layM cA am S U))) (fun v H => v = some (.int (i32 (dep S t))) ∧ zW D B0 (zj C (layM cA am S U)) H) := by
  refine z_met (cc := cX6_depthOf) (maxL := 2) (ret := (some .int)) (by decide) rfl (Nat.le_of_ble_eq_true rfl) ?_
  intro p e s m args below meth c ls Q hQ E hP hB hS hl
  have hl : lv_has ls 2 [(0, .ref (am 0)), (1, .int (i32 (t : Int)))] := hl
  have iX6 : ∀ w ∈ u_ws RX6 TX6 28, w ∈ wsX6_depthOf := by decide +kernel
  have X : zX D B0 (zj C (layM cA am S U)) s.heap s.heap [] := ⟨hP, hS⟩
  have hI0 := hI.1
  unfold SI0 at hI0
  obtain ⟨b1, b2, b3, b4, b5, b8, b17, b19, b7⟩ := hI0
  have ht2 := hI.2.2.1 t ht
  refine lv_aload_n E.1 E.2.1 dX6_depthOf_0 rfl (lv_at hl 0 rfl) ?_
  refine z_get E X (lM_0 C cA am S U) rfl iX6 9 (by decide) (by decide +kernel) (v := .ref (am 9)) rfl dX6_depthOf_1 ?_
  refine lv_iload_n E.1 E.2.1 dX6_depthOf_4 rfl (lv_at hl 1 rfl) ?_
  refine z_iald E X (lM_9 C cA am S U) t (by omega) (by omega) (by decide) dX6_depthOf_5 ?_
  refine z_iconst E dX6_depthOf_6 ?_
  refine z_cne E 17 ⟨by omega, by omega⟩ ⟨by omega, by omega⟩ dX6_depthOf_7 (by decide) (fun h7_1 => ?_) (fun h7_1 => ?_)
  · refine lv_aload_n E.1 E.2.1 dX6_depthOf_17 rfl (lv_at hl 0 rfl) ?_
    refine z_get E X (lM_0 C cA am S U) rfl iX6 12 (by decide) (by decide +kernel) (v := .ref (am 12)) rfl dX6_depthOf_18 ?_
    refine lv_iload_n E.1 E.2.1 dX6_depthOf_21 rfl (lv_at hl 1 rfl) ?_
    refine z_iald E X (lM_12 C cA am S U) t (by omega) (by omega) (by decide) dX6_depthOf_22 ?_
    exact z_ret E X hQ (⟨by unfold dep; first | rw [if_pos (by omega)] | rw [if_neg (by omega)], X.1⟩) dX6_depthOf_23
  · refine lv_aload_n E.1 E.2.1 dX6_depthOf_10 rfl (lv_at hl 0 rfl) ?_
    refine z_callV (As := []) (rest := []) (n := 0) E X (lM_0 C cA am S U) rfl (m_floor l D cA B0 C am S U ) gX6_depthOf_X6_floor rfl (by decide +kernel) ⟨by decide, by decide⟩ rfl hl.1 rfl (Nat.le_of_ble_eq_true rfl) dX6_depthOf_11 ⟨by decide, by decide⟩ X.1 0 0 ⟨rfl, rfl⟩ (fun v H locs hv hS_2 => ?_)
    obtain ⟨rfl, hw⟩ := hv
    replace X : zX D B0 (zj C (layM cA am S U)) s.heap H locs := ⟨hw, hS_2⟩
    refine lv_goto (tgt := 23) E.1 E.2.1 dX6_depthOf_14 (by decide) ?_
    exact z_ret E X hQ (⟨by unfold dep; first | rw [if_pos (by omega)] | rw [if_neg (by omega)], X.1⟩) dX6_depthOf_23

abbrev rX6_echoOf : Room := { frames := 4, cells := 0, slots := 0, locals := 102 }
set_option maxHeartbeats 4000000 in
set_option maxRecDepth 100000 in
theorem m_echoOf (l : Launch) (D : va_G) (cA : Nat → ClassId) (B0 : Nat) (C : zL) (am : Nat → Nat) (S U : zS) (hI : SI S) (hC : MC S U) (ea eb t : Nat) (he : (ea : Int) < S 5 0) (hb : (eb : Int) < S 5 0) (ht : (t : Int) < S 8 0) : zM l yX6_echoOf wsX6_echoOf rX6_echoOf [.ref (am 0), .int (i32 (ea : Int)), .int (i32 (eb : Int)), .int (i32 (t : Int))] D cA B0 (zW D B0 (zj C (layM cA am S U))) (fun v H => v = some (.int (i32 (ET S ea eb t))) ∧ ∃ U : zS, MC S U ∧ zW D B0 (zj C (layM cA am S U)) H) := by
  refine z_met (cc := cX6_echoOf) (maxL := 4) (ret := (some .int)) (by decide) rfl (Nat.le_of_ble_eq_true rfl) ?_
  intro p e s m args below meth c ls Q hQ E hP hB hS hl
  have hl : lv_has ls 4 [(0, .ref (am 0)), (1, .int (i32 (ea : Int))), (2, .int (i32 (eb : Int))), (3, .int (i32 (t : Int)))] := hl
  have iX6 : ∀ w ∈ u_ws RX6 TX6 28, w ∈ wsX6_echoOf := by decide +kernel
  have X : zX D B0 (zj C (layM cA am S U)) s.heap s.heap [] := ⟨hP, hS⟩
  have hI0 := hI.1
  unfold SI0 at hI0
  obtain ⟨b1, b2, b3, b4, b5, b8, b17, b19, b7⟩ := hI0
  have ht2 := (hI.2.2.1 t ht).2.1
  have hdp := dep_rng (t := t) hI ht
  refine lv_aload_n E.1 E.2.1 dX6_echoOf_0 rfl (lv_at hl 0 rfl) ?_
  refine lv_iload_n E.1 E.2.1 dX6_echoOf_1 rfl (lv_at hl 1 rfl) ?_
  refine lv_iload_n E.1 E.2.1 dX6_echoOf_2 rfl (lv_at hl 2 rfl) ?_
  refine lv_aload_n E.1 E.2.1 dX6_echoOf_3 rfl (lv_at hl 0 rfl) ?_
  refine z_get E X (lM_0 C cA am S U) rfl iX6 10 (by decide) (by decide +kernel) (v := .ref (am 10)) rfl dX6_echoOf_4 ?_
  refine lv_iload_n E.1 E.2.1 dX6_echoOf_7 rfl (lv_at hl 3 rfl) ?_
  refine z_iald E X (lM_10 C cA am S U) t (by omega) (by omega) (by decide) dX6_echoOf_8 ?_
  refine z_top (((S 10 t).toNat : Nat) : Int) (by omega) ?_
  refine lv_aload_n E.1 E.2.1 dX6_echoOf_9 rfl (lv_at hl 0 rfl) ?_
  refine z_get E X (lM_0 C cA am S U) rfl iX6 11 (by decide) (by decide +kernel) (v := .ref (am 11)) rfl dX6_echoOf_10 ?_
  refine lv_iload_n E.1 E.2.1 dX6_echoOf_13 rfl (lv_at hl 3 rfl) ?_
  refine z_iald E X (lM_11 C cA am S U) t (by omega) (by omega) (by decide) dX6_echoOf_14 ?_
  refine z_top (((S 11 t).toNat : Nat) : Int) (by omega) ?_
  refine lv_aload_n E.1 E.2.1 dX6_echoOf_15 rfl (lv_at hl 0 rfl) ?_
  refine lv_iload_n E.1 E.2.1 dX6_echoOf_16 rfl (lv_at hl 3 rfl) ?_
  refine z_callV (As := [.int (i32 (t : Int))]) (rest := [.int (i32 (((S 11 t).toNat : Nat) : Int)), .int (i32 (((S 10 t).toNat : Nat) : Int)), .int (i32 (eb : Int)), .int (i32 (ea : Int)), .ref (am 0)]) (n := 1) E X (lM_0 C cA am S U) rfl (m_depthOf l D cA B0 C am S U hI t (by omega)) gX6_echoOf_X6_depthOf rfl (by decide +kernel) ⟨by decide, by decide⟩ rfl hl.1 rfl (Nat.le_of_ble_eq_true rfl) dX6_echoOf_17 ⟨by decide, by decide⟩ X.1 0 0 ⟨rfl, rfl⟩ (fun v H locs hv hS_1 => ?_)
  obtain ⟨rfl, hw⟩ := hv
  replace X : zX D B0 (zj C (layM cA am S U)) s.heap H locs := ⟨hw, hS_1⟩
  have f_2 := dep_rng (t := t) hI (by omega)
  refine z_top (((dep S t).toNat : Nat) : Int) (by omega) ?_
  refine z_callV (As := [.int (i32 (ea : Int)), .int (i32 (eb : Int)), .int (i32 (((S 10 t).toNat : Nat) : Int)), .int (i32 (((S 11 t).toNat : Nat) : Int)), .int (i32 (((dep S t).toNat : Nat) : Int))]) (rest := []) (n := 5) E X (lM_0 C cA am S U) rfl (m_least l D cA B0 C am S U hI hC ea eb ((S 10 t).toNat) ((S 11 t).toNat) ((dep S t).toNat) (by omega) (by omega) (by omega) (by omega) (by omega)) gX6_echoOf_X6_least rfl (by decide +kernel) ⟨by decide, by decide⟩ rfl hl.1 rfl (Nat.le_of_ble_eq_true rfl) dX6_echoOf_20 ⟨by decide, by decide⟩ X.1 0 0 ⟨rfl, rfl⟩ (fun v H locs hv hS_3 => ?_)
  obtain ⟨rfl, U_4, hC, hw⟩ := hv
  replace X : zX D B0 (zj C (layM cA am S U_4)) s.heap H locs := ⟨hw, hS_3⟩
  have f_5 := LST_rng (a := ea) (b := eb) (x := ((S 10 t).toNat)) (n := ((S 11 t).toNat) - ((S 10 t).toNat)) (y := ((dep S t).toNat)) hI (by omega) (by omega) (by omega) (by omega)
  refine z_top (ET S ea eb t) (by unfold ET; rw [show (S 11 t - S 10 t).toNat = (S 11 t).toNat - (S 10 t).toNat by omega]) ?_
  exact z_ret E X hQ (⟨rfl, U_4, hC, X.1⟩) dX6_echoOf_23

abbrev rX6_echoAt : Room := { frames := 5, cells := 0, slots := 0, locals := 125 }
set_option maxHeartbeats 4000000 in
set_option maxRecDepth 100000 in
theorem m_echoAt (l : Launch) (D : va_G) (cA : Nat → ClassId) (B0 : Nat) (C : zL) (am : Nat → Nat) (S U : zS) (hI : SI S) (hC : MC S U) (ea eb : Nat) (tick : Int) (he : (ea : Int) < S 5 0) (hb : (eb : Int) < S 5 0) (ht : zrl tick) : zM l yX6_echoAt wsX6_echoAt rX6_echoAt [.ref (am 0), .int (i32 (ea : Int)), .int (i32 (eb : Int)), .long (i64 tick)] D cA B0 (zW D B0 (zj C (layM cA am S U))) (fun v H => v = some (.int (i32 (EC S ea eb tick))) ∧ ∃ U : zS, MC S U ∧ zW D B0 (zj C (layM cA am S U)) H) := by
  refine z_met (cc := cX6_echoAt) (maxL := 7) (ret := (some .int)) (by decide) rfl (Nat.le_of_ble_eq_true rfl) ?_
  intro p e s m args below meth c ls Q hQ E hP hB hS hl
  have hl : lv_has ls 7 [(0, .ref (am 0)), (1, .int (i32 (ea : Int))), (2, .int (i32 (eb : Int))), (3, .long (i64 tick))] := hl
  have iX6 : ∀ w ∈ u_ws RX6 TX6 28, w ∈ wsX6_echoAt := by decide +kernel
  have X : zX D B0 (zj C (layM cA am S U)) s.heap s.heap [] := ⟨hP, hS⟩
  have hI0 := hI.1
  unfold SI0 at hI0
  obtain ⟨b1, b2, b3, b4, b5, b8, b17, b19, b7⟩ := hI0
  unfold zrl at ht
  have l1 := b7 ea
  have l2 := b7 eb
  refine z_iconst E dX6_echoAt_0 ?_
  refine z_top (sumn (fec S ea eb tick) 0) (rfl) ?_
  refine lv_istore (lv' := [(5, .int (i32 (sumn (fec S ea eb tick) 0))), (0, .ref (am 0)), (1, .int (i32 (ea : Int))), (2, .int (i32 (eb : Int))), (3, .long (i64 tick))]) E.1 E.2.1 dX6_echoAt_1 hl (by decide) rfl (fun ls hl => ?_)
  refine z_iconst E dX6_echoAt_3 ?_
  refine z_top (0 : Int) (rfl) ?_
  refine lv_istore (lv' := [(6, .int (i32 (0 : Int))), (5, .int (i32 (sumn (fec S ea eb tick) 0))), (0, .ref (am 0)), (1, .int (i32 (ea : Int))), (2, .int (i32 (eb : Int))), (3, .long (i64 tick))]) E.1 E.2.1 dX6_echoAt_4 hl (by decide) rfl (fun ls hl => ?_)
  have key6 : ∀ (N : Nat) (n : Nat) (U : zS) (H : Heap) (locs : List Loc) (ls : Array Slot), ((S 8 0).toNat - n) < N → ((n : Int) ≤ S 8 0) → (MC S U) → (0 < n → S 7 ea = 0 ∧ S 7 eb = 0) → zX D B0 (zj C (layM cA am S U)) s.heap H locs → lv_has ls 7 [(0, .ref (am 0)), (1, .int (i32 (ea : Int))), (2, .int (i32 (eb : Int))), (3, .long (i64 tick)), (5, .int (i32 (sumn (fec S ea eb tick) n))), (6, .int (i32 (n : Int)))] → W p l e rX6_echoAt s m args below meth c H locs 0 0 Q (F0 m 6 ls []) := by
    intro N
    induction N with
    | zero => intros; omega
    | succ N ih6 =>
      intro n U H locs ls hN hn hC hk X hl
      refine lv_iload E.1 E.2.1 dX6_echoAt_6 (lv_at hl 5 rfl) ?_
      refine lv_aload_n E.1 E.2.1 dX6_echoAt_8 rfl (lv_at hl 0 rfl) ?_
      refine z_get E X (lM_0 C cA am S U) rfl iX6 8 (by decide) (by decide +kernel) (v := .int (i32 (S 8 0))) rfl dX6_echoAt_9 ?_
      refine z_cge E 69 ⟨by omega, by omega⟩ ⟨by omega, by omega⟩ dX6_echoAt_12 (by decide) (fun h12_1 => ?_) (fun h12_1 => ?_)
      · refine lv_iload E.1 E.2.1 dX6_echoAt_69 (lv_at hl 4 rfl) ?_
        exact z_ret E X hQ (⟨by first | rw [EC_full (by omega) hn hk] | rw [EC_lost (by omega) hk], U, hC, X.1⟩) dX6_echoAt_71
      · refine lv_aload_n E.1 E.2.1 dX6_echoAt_15 rfl (lv_at hl 0 rfl) ?_
        refine z_get E X (lM_0 C cA am S U) rfl iX6 7 (by decide) (by decide +kernel) (v := .ref (am 7)) rfl dX6_echoAt_16 ?_
        refine lv_iload_n E.1 E.2.1 dX6_echoAt_19 rfl (lv_at hl 1 rfl) ?_
        refine z_zald E X (lM_7 C cA am S U) ea (by omega) (by omega) (by decide) dX6_echoAt_20 ?_
        refine z_fne E 69 ⟨by omega, by omega⟩ dX6_echoAt_21 (by decide) (fun h21_2 => ?_) (fun h21_2 => ?_)
        · refine lv_iload E.1 E.2.1 dX6_echoAt_69 (lv_at hl 4 rfl) ?_
          exact z_ret E X hQ (⟨by first | rw [EC_full (by omega) hn hk] | rw [EC_lost (by omega) hk], U, hC, X.1⟩) dX6_echoAt_71
        · refine lv_aload_n E.1 E.2.1 dX6_echoAt_24 rfl (lv_at hl 0 rfl) ?_
          refine z_get E X (lM_0 C cA am S U) rfl iX6 7 (by decide) (by decide +kernel) (v := .ref (am 7)) rfl dX6_echoAt_25 ?_
          refine lv_iload_n E.1 E.2.1 dX6_echoAt_28 rfl (lv_at hl 2 rfl) ?_
          refine z_zald E X (lM_7 C cA am S U) eb (by omega) (by omega) (by decide) dX6_echoAt_29 ?_
          refine z_fne E 69 ⟨by omega, by omega⟩ dX6_echoAt_30 (by decide) (fun h30_3 => ?_) (fun h30_3 => ?_)
          · refine lv_iload E.1 E.2.1 dX6_echoAt_69 (lv_at hl 4 rfl) ?_
            exact z_ret E X hQ (⟨by first | rw [EC_full (by omega) hn hk] | rw [EC_lost (by omega) hk], U, hC, X.1⟩) dX6_echoAt_71
          · refine lv_iload E.1 E.2.1 dX6_echoAt_33 (lv_at hl 4 rfl) ?_
            refine lv_aload_n E.1 E.2.1 dX6_echoAt_35 rfl (lv_at hl 0 rfl) ?_
            refine lv_iload_n E.1 E.2.1 dX6_echoAt_36 rfl (lv_at hl 1 rfl) ?_
            refine lv_iload_n E.1 E.2.1 dX6_echoAt_37 rfl (lv_at hl 2 rfl) ?_
            refine lv_iload E.1 E.2.1 dX6_echoAt_38 (lv_at hl 5 rfl) ?_
            refine z_callV (As := [.int (i32 (ea : Int)), .int (i32 (eb : Int)), .int (i32 (n : Int))]) (rest := [.int (i32 (sumn (fec S ea eb tick) n))]) (n := 3) E X (lM_0 C cA am S U) rfl (m_echoOf l D cA B0 C am S U hI hC ea eb n (by omega) (by omega) (by omega)) gX6_echoAt_X6_echoOf rfl (by decide +kernel) ⟨by decide, by decide⟩ rfl hl.1 rfl (Nat.le_of_ble_eq_true rfl) dX6_echoAt_40 ⟨by decide, by decide⟩ X.1 0 0 ⟨rfl, rfl⟩ (fun v H locs hv hS_4 => ?_)
            obtain ⟨rfl, U_5, hC, hw⟩ := hv
            replace X : zX D B0 (zj C (layM cA am S U_5)) s.heap H locs := ⟨hw, hS_4⟩
            have f_6 := ET_rng (a := ea) (b := eb) (t := n) hI (by omega) (by omega) (by omega)
            refine z_i2l E ⟨by omega, by omega⟩ dX6_echoAt_43 ?_
            refine lv_lload_n E.1 E.2.1 dX6_echoAt_44 rfl (lv_at hl 3 rfl) ?_
            refine z_lcmp E ⟨by omega, by omega⟩ ⟨by omega, by omega⟩ dX6_echoAt_45 (fun z_7 hrz_7 hlz_7 hez_7 => ?_)
            unfold zr at hrz_7
            refine z_fne E 59 ⟨by omega, by omega⟩ dX6_echoAt_46 (by decide) (fun h46_8 => ?_) (fun h46_8 => ?_)
            · refine z_iconst E dX6_echoAt_59 ?_
              refine z_iadd E dX6_echoAt_60 ?_
              refine z_top (sumn (fec S ea eb tick) (n + 1)) (by rw [sumn_S, fec, if_neg (by omega)]) ?_
              refine lv_istore (lv' := [(5, .int (i32 (sumn (fec S ea eb tick) (n + 1)))), (0, .ref (am 0)), (1, .int (i32 (ea : Int))), (2, .int (i32 (eb : Int))), (3, .long (i64 tick)), (6, .int (i32 (n : Int)))]) E.1 E.2.1 dX6_echoAt_61 hl (by decide) rfl (fun ls hl => ?_)
              refine z_iinc (lv' := [(6, .int (i32 ((n + 1 : Nat) : Int))), (5, .int (i32 (sumn (fec S ea eb tick) (n + 1)))), (0, .ref (am 0)), (1, .int (i32 (ea : Int))), (2, .int (i32 (eb : Int))), (3, .long (i64 tick))]) E dX6_echoAt_63 hl (k := 5) rfl (by decide) rfl (fun ls hl => ?_)
              refine lv_goto (tgt := 6) E.1 E.2.1 dX6_echoAt_66 (by decide) ?_
              exact ih6 (n + 1) U_5 _ _ _ (by omega) (by omega) hC (fun _ => by omega) X (lv_sub hl [2, 3, 4, 5, 1, 0] rfl)
            · refine lv_aload_n E.1 E.2.1 dX6_echoAt_49 rfl (lv_at hl 0 rfl) ?_
              refine z_get E X (lM_0 C cA am S U_5) rfl iX6 13 (by decide) (by decide +kernel) (v := .ref (am 13)) rfl dX6_echoAt_50 ?_
              refine lv_iload E.1 E.2.1 dX6_echoAt_53 (lv_at hl 5 rfl) ?_
              refine z_iald E X (lM_13 C cA am S U_5) n (by omega) (by omega) (by decide) dX6_echoAt_55 ?_
              refine lv_goto (tgt := 60) E.1 E.2.1 dX6_echoAt_56 (by decide) ?_
              refine z_iadd E dX6_echoAt_60 ?_
              refine z_top (sumn (fec S ea eb tick) (n + 1)) (by rw [sumn_S, fec, if_pos (by omega)]) ?_
              refine lv_istore (lv' := [(5, .int (i32 (sumn (fec S ea eb tick) (n + 1)))), (0, .ref (am 0)), (1, .int (i32 (ea : Int))), (2, .int (i32 (eb : Int))), (3, .long (i64 tick)), (6, .int (i32 (n : Int)))]) E.1 E.2.1 dX6_echoAt_61 hl (by decide) rfl (fun ls hl => ?_)
              refine z_iinc (lv' := [(6, .int (i32 ((n + 1 : Nat) : Int))), (5, .int (i32 (sumn (fec S ea eb tick) (n + 1)))), (0, .ref (am 0)), (1, .int (i32 (ea : Int))), (2, .int (i32 (eb : Int))), (3, .long (i64 tick))]) E dX6_echoAt_63 hl (k := 5) rfl (by decide) rfl (fun ls hl => ?_)
              refine lv_goto (tgt := 6) E.1 E.2.1 dX6_echoAt_66 (by decide) ?_
              exact ih6 (n + 1) U_5 _ _ _ (by omega) (by omega) hC (fun _ => by omega) X (lv_sub hl [2, 3, 4, 5, 1, 0] rfl)
  exact key6 (((S 8 0).toNat - 0) + 1) 0 U _ _ _ (by omega) (by omega) hC (fun h => absurd h (Nat.lt_irrefl 0)) X (lv_sub hl [2, 3, 4, 5, 1, 0] rfl)

abbrev rX6_heardAt : Room := { frames := 6, cells := 0, slots := 0, locals := 151 }
set_option maxHeartbeats 4000000 in
set_option maxRecDepth 100000 in
theorem m_heardAt (l : Launch) (D : va_G) (cA : Nat → ClassId) (B0 : Nat) (C : zL) (am : Nat → Nat) (S U : zS) (hI : SI S) (hC : MC S U) (q : Nat) (tick : Int) (he : (q : Int) < S 5 0) (ht : -1000000000000 ≤ tick ∧ tick ≤ 1000000000000) : zM l yX6_heardAt wsX6_heardAt rX6_heardAt [.ref (am 0), .int (i32 (q : Int)), .long (i64 tick)] D cA B0 (zW D B0 (zj C (layM cA am S U))) (fun v H => v = some (.int (i32 (HD S q tick))) ∧ ∃ U : zS, MC S U ∧ zW D B0 (zj C (layM cA am S U)) H) := by
  refine z_met (cc := cX6_heardAt) (maxL := 6) (ret := (some .int)) (by decide) rfl (Nat.le_of_ble_eq_true rfl) ?_
  intro p e s m args below meth c ls Q hQ E hP hB hS hl
  have hl : lv_has ls 6 [(0, .ref (am 0)), (1, .int (i32 (q : Int))), (2, .long (i64 tick))] := hl
  have iX6 : ∀ w ∈ u_ws RX6 TX6 28, w ∈ wsX6_heardAt := by decide +kernel
  have X : zX D B0 (zj C (layM cA am S U)) s.heap s.heap [] := ⟨hP, hS⟩
  have hI0 := hI.1
  unfold SI0 at hI0
  obtain ⟨b1, b2, b3, b4, b5, b8, b17, b19, b7⟩ := hI0
  refine z_iconst E dX6_heardAt_0 ?_
  refine z_top (sumn (fhd S q tick) 0) (rfl) ?_
  refine lv_istore (lv' := [(4, .int (i32 (sumn (fhd S q tick) 0))), (0, .ref (am 0)), (1, .int (i32 (q : Int))), (2, .long (i64 tick))]) E.1 E.2.1 dX6_heardAt_1 hl (by decide) rfl (fun ls hl => ?_)
  refine z_iconst E dX6_heardAt_3 ?_
  refine z_top (0 : Int) (rfl) ?_
  refine lv_istore (lv' := [(5, .int (i32 (0 : Int))), (4, .int (i32 (sumn (fhd S q tick) 0))), (0, .ref (am 0)), (1, .int (i32 (q : Int))), (2, .long (i64 tick))]) E.1 E.2.1 dX6_heardAt_4 hl (by decide) rfl (fun ls hl => ?_)
  have key6 : ∀ (N : Nat) (n : Nat) (U : zS) (H : Heap) (locs : List Loc) (ls : Array Slot), ((S 5 0).toNat - n) < N → ((n : Int) ≤ S 5 0) → (MC S U) → zX D B0 (zj C (layM cA am S U)) s.heap H locs → lv_has ls 6 [(0, .ref (am 0)), (1, .int (i32 (q : Int))), (2, .long (i64 tick)), (4, .int (i32 (sumn (fhd S q tick) n))), (5, .int (i32 (n : Int)))] → W p l e rX6_heardAt s m args below meth c H locs 0 0 Q (F0 m 6 ls []) := by
    intro N
    induction N with
    | zero => intros; omega
    | succ N ih6 =>
      intro n U H locs ls hN hn hC X hl
      refine lv_iload E.1 E.2.1 dX6_heardAt_6 (lv_at hl 4 rfl) ?_
      refine lv_aload_n E.1 E.2.1 dX6_heardAt_8 rfl (lv_at hl 0 rfl) ?_
      refine z_get E X (lM_0 C cA am S U) rfl iX6 5 (by decide) (by decide +kernel) (v := .int (i32 (S 5 0))) rfl dX6_heardAt_9 ?_
      refine z_cge E 57 ⟨by omega, by omega⟩ ⟨by omega, by omega⟩ dX6_heardAt_12 (by decide) (fun h12_1 => ?_) (fun h12_1 => ?_)
      · refine lv_iload E.1 E.2.1 dX6_heardAt_57 (lv_at hl 3 rfl) ?_
        exact z_ret E X hQ (⟨by unfold HD; rw [show (S 5 0).toNat = n by omega], U, hC, X.1⟩) dX6_heardAt_59
      · have l1 := b7 n
        have l2 := hI.2.2.2.2.2 n
        refine lv_iload E.1 E.2.1 dX6_heardAt_15 (lv_at hl 3 rfl) ?_
        refine lv_aload_n E.1 E.2.1 dX6_heardAt_17 rfl (lv_at hl 0 rfl) ?_
        refine z_get E X (lM_0 C cA am S U) rfl iX6 7 (by decide) (by decide +kernel) (v := .ref (am 7)) rfl dX6_heardAt_18 ?_
        refine lv_iload E.1 E.2.1 dX6_heardAt_21 (lv_at hl 4 rfl) ?_
        refine z_zald E X (lM_7 C cA am S U) n (by omega) (by omega) (by decide) dX6_heardAt_23 ?_
        refine z_feq E 31 ⟨by omega, by omega⟩ dX6_heardAt_24 (by decide) (fun h24_2 => ?_) (fun h24_2 => ?_)
        · refine lv_aload_n E.1 E.2.1 dX6_heardAt_31 rfl (lv_at hl 0 rfl) ?_
          refine lv_iload E.1 E.2.1 dX6_heardAt_32 (lv_at hl 4 rfl) ?_
          refine lv_iload_n E.1 E.2.1 dX6_heardAt_34 rfl (lv_at hl 1 rfl) ?_
          refine lv_lload_n E.1 E.2.1 dX6_heardAt_35 rfl (lv_at hl 2 rfl) ?_
          refine lv_aload_n E.1 E.2.1 dX6_heardAt_36 rfl (lv_at hl 0 rfl) ?_
          refine z_get E X (lM_0 C cA am S U) rfl iX6 18 (by decide) (by decide +kernel) (v := .ref (am 18)) rfl dX6_heardAt_37 ?_
          refine lv_iload E.1 E.2.1 dX6_heardAt_40 (lv_at hl 4 rfl) ?_
          refine z_iald E X (lM_18 C cA am S U) n (by omega) (by omega) (by decide) dX6_heardAt_42 ?_
          refine z_i2l E ⟨by omega, by omega⟩ dX6_heardAt_43 ?_
          refine z_lsub E dX6_heardAt_44 ?_
          refine z_callV (As := [.int (i32 (n : Int)), .int (i32 (q : Int)), .long (i64 (tick - (S 18 n)))]) (rest := [.int (i32 (sumn (fhd S q tick) n))]) (n := 3) E X (lM_0 C cA am S U) rfl (m_echoAt l D cA B0 C am S U hI hC n q (tick - (S 18 n)) (by omega) (by omega) (by unfold zrl; omega)) gX6_heardAt_X6_echoAt rfl (by decide +kernel) ⟨by decide, by decide⟩ rfl hl.1 rfl (Nat.le_of_ble_eq_true rfl) dX6_heardAt_45 ⟨by decide, by decide⟩ X.1 0 0 ⟨rfl, rfl⟩ (fun v H locs hv hS_3 => ?_)
          obtain ⟨rfl, U_4, hC, hw⟩ := hv
          replace X : zX D B0 (zj C (layM cA am S U_4)) s.heap H locs := ⟨hw, hS_3⟩
          have f_5 := EC_rng (a := n) (b := q) (tick := (tick - (S 18 n))) hI
          refine z_iadd E dX6_heardAt_48 ?_
          refine z_top (sumn (fhd S q tick) (n + 1)) (by rw [sumn_S, fhd, if_pos (by omega)]) ?_
          refine lv_istore (lv' := [(4, .int (i32 (sumn (fhd S q tick) (n + 1)))), (0, .ref (am 0)), (1, .int (i32 (q : Int))), (2, .long (i64 tick)), (5, .int (i32 (n : Int)))]) E.1 E.2.1 dX6_heardAt_49 hl (by decide) rfl (fun ls hl => ?_)
          refine z_iinc (lv' := [(5, .int (i32 ((n + 1 : Nat) : Int))), (4, .int (i32 (sumn (fhd S q tick) (n + 1)))), (0, .ref (am 0)), (1, .int (i32 (q : Int))), (2, .long (i64 tick))]) E dX6_heardAt_51 hl (k := 4) rfl (by decide) rfl (fun ls hl => ?_)
          refine lv_goto (tgt := 6) E.1 E.2.1 dX6_heardAt_54 (by decide) ?_
          exact ih6 (n + 1) U_4 _ _ _ (by omega) (by omega) hC X (lv_sub hl [2, 3, 4, 1, 0] rfl)
        · refine z_iconst E dX6_heardAt_27 ?_
          refine lv_goto (tgt := 48) E.1 E.2.1 dX6_heardAt_28 (by decide) ?_
          refine z_iadd E dX6_heardAt_48 ?_
          refine z_top (sumn (fhd S q tick) (n + 1)) (by rw [sumn_S, fhd, if_neg (by omega)]) ?_
          refine lv_istore (lv' := [(4, .int (i32 (sumn (fhd S q tick) (n + 1)))), (0, .ref (am 0)), (1, .int (i32 (q : Int))), (2, .long (i64 tick)), (5, .int (i32 (n : Int)))]) E.1 E.2.1 dX6_heardAt_49 hl (by decide) rfl (fun ls hl => ?_)
          refine z_iinc (lv' := [(5, .int (i32 ((n + 1 : Nat) : Int))), (4, .int (i32 (sumn (fhd S q tick) (n + 1)))), (0, .ref (am 0)), (1, .int (i32 (q : Int))), (2, .long (i64 tick))]) E dX6_heardAt_51 hl (k := 4) rfl (by decide) rfl (fun ls hl => ?_)
          refine lv_goto (tgt := 6) E.1 E.2.1 dX6_heardAt_54 (by decide) ?_
          exact ih6 (n + 1) U _ _ _ (by omega) (by omega) hC X (lv_sub hl [2, 3, 4, 1, 0] rfl)
  exact key6 (((S 5 0).toNat - 0) + 1) 0 U _ _ _ (by omega) (by omega) hC X (lv_sub hl [2, 3, 4, 1, 0] rfl)

abbrev rX6_isNear : Room := { frames := 3, cells := 0, slots := 0, locals := 74 }
set_option maxHeartbeats 4000000 in
set_option maxRecDepth 100000 in
theorem m_isNear (l : Launch) (D : va_G) (cA : Nat → ClassId) (B0 : Nat) (C : zL) (am : Nat → Nat) (S U : zS) (hI : SI S) (hC : MC S U) (x y : Nat) (wi : Int) (hx : x ≤ 50) (hy : S 1 0 ≤ (y : Int) ∧ (y : Int) ≤ S 1 0 + S 2 0) (hwi : 0 ≤ wi ∧ wi ≤ 100) : zM l yX6_isNear wsX6_isNear rX6_isNear [.ref (am 0), .int (i32 (x : Int)), .int (i32 (y : Int)), .int (i32 wi)] D cA B0 (zW D B0 (zj C (layM cA am S U))) (fun v H => (∃ z : Int, v = some (.int (i32 z)) ∧ z = if nearb S wi x y then 1 else 0) ∧ ∃ U : zS, MC S U ∧ zW D B0 (zj C (layM cA am S U)) H) := by
  refine z_met (cc := cX6_isNear) (maxL := 6) (ret := (some .boolean)) (by decide) rfl (Nat.le_of_ble_eq_true rfl) ?_
  intro p e s m args below meth c ls Q hQ E hP hB hS hl
  have hl : lv_has ls 6 [(0, .ref (am 0)), (1, .int (i32 (x : Int))), (2, .int (i32 (y : Int))), (3, .int (i32 wi))] := hl
  have iX6 : ∀ w ∈ u_ws RX6 TX6 28, w ∈ wsX6_isNear := by decide +kernel
  have X : zX D B0 (zj C (layM cA am S U)) s.heap s.heap [] := ⟨hP, hS⟩
  have hI0 := hI.1
  unfold SI0 at hI0
  obtain ⟨b1, b2, b3, b4, b5, b8, b17, b19, b7⟩ := hI0
  refine z_iconst E dX6_isNear_0 ?_
  refine z_top (0 : Int) (rfl) ?_
  refine lv_istore (lv' := [(4, .int (i32 (0 : Int))), (0, .ref (am 0)), (1, .int (i32 (x : Int))), (2, .int (i32 (y : Int))), (3, .int (i32 wi))]) E.1 E.2.1 dX6_isNear_1 hl (by decide) rfl (fun ls hl => ?_)
  have key3 : ∀ (N : Nat) (n : Nat) (U : zS) (H : Heap) (locs : List Loc) (ls : Array Slot), ((S 19 0).toNat - n) < N → ((n : Int) ≤ S 19 0) → (MC S U) → (alln (fnb S wi x y) n = true) → zX D B0 (zj C (layM cA am S U)) s.heap H locs → lv_has ls 6 [(0, .ref (am 0)), (1, .int (i32 (x : Int))), (2, .int (i32 (y : Int))), (3, .int (i32 wi)), (4, .int (i32 (n : Int)))] → W p l e rX6_isNear s m args below meth c H locs 0 0 Q (F0 m 3 ls []) := by
    intro N
    induction N with
    | zero => intros; omega
    | succ N ih3 =>
      intro n U H locs ls hN hn hC hal X hl
      refine lv_iload E.1 E.2.1 dX6_isNear_3 (lv_at hl 4 rfl) ?_
      refine lv_aload_n E.1 E.2.1 dX6_isNear_5 rfl (lv_at hl 0 rfl) ?_
      refine z_get E X (lM_0 C cA am S U) rfl iX6 19 (by decide) (by decide +kernel) (v := .int (i32 (S 19 0))) rfl dX6_isNear_6 ?_
      refine z_cge E 71 ⟨by omega, by omega⟩ ⟨by omega, by omega⟩ dX6_isNear_9 (by decide) (fun h9_1 => ?_) (fun h9_1 => ?_)
      · refine z_iconst E dX6_isNear_71 ?_
        have hya : nearb S wi x y = true := by unfold nearb; rw [show (S 19 0).toNat = n by omega]; exact hal
        exact z_retz E X hQ (by omega) (⟨⟨1, rfl, by rw [hya]; rfl⟩, U, hC, X.1⟩) dX6_isNear_72
      · have h3 := hI.2.2.2.1 n (by omega)
        refine lv_aload_n E.1 E.2.1 dX6_isNear_12 rfl (lv_at hl 0 rfl) ?_
        refine lv_aload_n E.1 E.2.1 dX6_isNear_13 rfl (lv_at hl 0 rfl) ?_
        refine z_get E X (lM_0 C cA am S U) rfl iX6 20 (by decide) (by decide +kernel) (v := .ref (am 20)) rfl dX6_isNear_14 ?_
        refine lv_iload E.1 E.2.1 dX6_isNear_17 (lv_at hl 4 rfl) ?_
        refine z_iald E X (lM_20 C cA am S U) n (by omega) (by omega) (by decide) dX6_isNear_19 ?_
        refine z_top (((S 20 n).toNat : Nat) : Int) (by omega) ?_
        refine lv_iload_n E.1 E.2.1 dX6_isNear_20 rfl (lv_at hl 1 rfl) ?_
        refine lv_iload_n E.1 E.2.1 dX6_isNear_21 rfl (lv_at hl 2 rfl) ?_
        refine z_callV (As := [.int (i32 (((S 20 n).toNat : Nat) : Int)), .int (i32 (x : Int)), .int (i32 (y : Int))]) (rest := []) (n := 3) E X (lM_0 C cA am S U) rfl (m_timeOf l D cA B0 C am S U hI hC ((S 20 n).toNat) x y (by omega) (by omega) (by omega)) gX6_isNear_X6_timeOf rfl (by decide +kernel) ⟨by decide, by decide⟩ rfl hl.1 rfl (Nat.le_of_ble_eq_true rfl) dX6_isNear_22 ⟨by decide, by decide⟩ X.1 0 0 ⟨rfl, rfl⟩ (fun v H locs hv hS_2 => ?_)
        obtain ⟨rfl, U_3, hC, hw⟩ := hv
        replace X : zX D B0 (zj C (layM cA am S U_3)) s.heap H locs := ⟨hw, hS_2⟩
        have f_4 := TM_rng (x := x) hI.1 hI.2.1 (e := ((S 20 n).toNat)) (y := y) (by omega) (by omega) (by omega)
        refine lv_aload_n E.1 E.2.1 dX6_isNear_25 rfl (lv_at hl 0 rfl) ?_
        refine lv_aload_n E.1 E.2.1 dX6_isNear_26 rfl (lv_at hl 0 rfl) ?_
        refine z_get E X (lM_0 C cA am S U_3) rfl iX6 21 (by decide) (by decide +kernel) (v := .ref (am 21)) rfl dX6_isNear_27 ?_
        refine lv_iload E.1 E.2.1 dX6_isNear_30 (lv_at hl 4 rfl) ?_
        refine z_iald E X (lM_21 C cA am S U_3) n (by omega) (by omega) (by decide) dX6_isNear_32 ?_
        refine z_top (((S 21 n).toNat : Nat) : Int) (by omega) ?_
        refine lv_iload_n E.1 E.2.1 dX6_isNear_33 rfl (lv_at hl 1 rfl) ?_
        refine lv_iload_n E.1 E.2.1 dX6_isNear_34 rfl (lv_at hl 2 rfl) ?_
        refine z_callV (As := [.int (i32 (((S 21 n).toNat : Nat) : Int)), .int (i32 (x : Int)), .int (i32 (y : Int))]) (rest := [.int (i32 (TM S ((S 20 n).toNat) x y))]) (n := 3) E X (lM_0 C cA am S U_3) rfl (m_timeOf l D cA B0 C am S U_3 hI hC ((S 21 n).toNat) x y (by omega) (by omega) (by omega)) gX6_isNear_X6_timeOf rfl (by decide +kernel) ⟨by decide, by decide⟩ rfl hl.1 rfl (Nat.le_of_ble_eq_true rfl) dX6_isNear_35 ⟨by decide, by decide⟩ X.1 0 0 ⟨rfl, rfl⟩ (fun v H locs hv hS_5 => ?_)
        obtain ⟨rfl, U_6, hC, hw⟩ := hv
        replace X : zX D B0 (zj C (layM cA am S U_6)) s.heap H locs := ⟨hw, hS_5⟩
        have f_7 := TM_rng (x := x) hI.1 hI.2.1 (e := ((S 21 n).toNat)) (y := y) (by omega) (by omega) (by omega)
        refine z_iadd E dX6_isNear_38 ?_
        refine lv_aload_n E.1 E.2.1 dX6_isNear_39 rfl (lv_at hl 0 rfl) ?_
        refine z_get E X (lM_0 C cA am S U_6) rfl iX6 22 (by decide) (by decide +kernel) (v := .ref (am 22)) rfl dX6_isNear_40 ?_
        refine lv_iload E.1 E.2.1 dX6_isNear_43 (lv_at hl 4 rfl) ?_
        refine z_iald E X (lM_22 C cA am S U_6) n (by omega) (by omega) (by decide) dX6_isNear_45 ?_
        refine z_isub E dX6_isNear_46 ?_
        refine lv_istore (lv' := [(5, .int (i32 (((TM S ((S 20 n).toNat) x y) + (TM S ((S 21 n).toNat) x y)) - (S 22 n)))), (0, .ref (am 0)), (1, .int (i32 (x : Int))), (2, .int (i32 (y : Int))), (3, .int (i32 wi)), (4, .int (i32 (n : Int)))]) E.1 E.2.1 dX6_isNear_47 hl (by decide) rfl (fun ls hl => ?_)
        refine lv_iload E.1 E.2.1 dX6_isNear_49 (lv_at hl 0 rfl) ?_
        refine z_i2l E ⟨by omega, by omega⟩ dX6_isNear_51 ?_
        refine lv_iload_n E.1 E.2.1 dX6_isNear_52 rfl (lv_at hl 4 rfl) ?_
        refine z_ineg E dX6_isNear_53 ?_
        refine z_i2l E ⟨by omega, by omega⟩ dX6_isNear_54 ?_
        refine lv_iload_n E.1 E.2.1 dX6_isNear_55 rfl (lv_at hl 4 rfl) ?_
        refine z_i2l E ⟨by omega, by omega⟩ dX6_isNear_56 ?_
        refine z_callJ (As := [.long (i64 (((TM S ((S 20 n).toNat) x y) + (TM S ((S 21 n).toNat) x y)) - (S 22 n))), .long (i64 (-wi)), .long (i64 wi)]) (rest := []) (n := 3) E X (c_in l D cA B0 _ (((TM S ((S 20 n).toNat) x y) + (TM S ((S 21 n).toNat) x y)) - (S 22 n)) (-wi) wi ⟨by omega, by omega⟩ ⟨by omega, by omega⟩ ⟨by omega, by omega⟩) gX6_isNear_X6_in rfl (by decide +kernel) ⟨by decide, by decide⟩ rfl hl.1 rfl (Nat.le_of_ble_eq_true rfl) dX6_isNear_57 ⟨by decide, by decide⟩ rfl 0 0 ⟨rfl, rfl⟩ (fun v H locs hv hS_8 => ?_)
        obtain ⟨hH, z_9, rfl, ez_9⟩ := hv
        subst hH
        replace X := X.same hS_8
        refine z_fne E 65 ⟨by omega, by omega⟩ dX6_isNear_60 (by decide) (fun h60_10 => ?_) (fun h60_10 => ?_)
        · refine z_iinc (lv' := [(4, .int (i32 ((n + 1 : Nat) : Int))), (5, .int (i32 (((TM S ((S 20 n).toNat) x y) + (TM S ((S 21 n).toNat) x y)) - (S 22 n)))), (0, .ref (am 0)), (1, .int (i32 (x : Int))), (2, .int (i32 (y : Int))), (3, .int (i32 wi))]) E dX6_isNear_65 hl (k := 5) rfl (by decide) rfl (fun ls hl => ?_)
          refine lv_goto (tgt := 3) E.1 E.2.1 dX6_isNear_68 (by decide) ?_
          exact ih3 (n + 1) U_6 _ _ _ (by omega) (by omega) hC (by rw [alln_S, hal, Bool.true_and]; exact decide_eq_true (by unfold far; omega)) X (lv_sub hl [2, 3, 4, 5, 0] rfl)
        · refine z_iconst E dX6_isNear_63 ?_
          have hno : nearb S wi x y = false := alln_no (n := n) (decide_eq_false (by unfold far; omega)) (by omega)
          exact z_retz E X hQ (by omega) (⟨⟨0, rfl, by rw [hno]; rfl⟩, U_6, hC, X.1⟩) dX6_isNear_64
  exact key3 (((S 19 0).toNat - 0) + 1) 0 U _ _ _ (by omega) (by omega) hC rfl X (lv_sub hl [1, 2, 3, 4, 0] rfl)

abbrev rX6_near : Room := { frames := 4, cells := 0, slots := 0, locals := 99 }
set_option maxHeartbeats 4000000 in
set_option maxRecDepth 100000 in
theorem m_near (l : Launch) (D : va_G) (cA : Nat → ClassId) (B0 : Nat) (C : zL) (am : Nat → Nat) (S U : zS) (hI : SI S) (hC : MC S U) (wi i : Int) (hwi : 0 ≤ wi ∧ wi ≤ 100) (hi : zr i) : zM l yX6_near wsX6_near rX6_near [.ref (am 0), .int (i32 wi), .int (i32 i)] D cA B0 (zW D B0 (zj C (layM cA am S U))) (fun v H => v = some (.int (i32 (NRR S wi i))) ∧ ∃ U : zS, MC S U ∧ zW D B0 (zj C (layM cA am S U)) H) := by
  refine z_met (cc := cX6_near) (maxL := 6) (ret := (some .int)) (by decide) rfl (Nat.le_of_ble_eq_true rfl) ?_
  intro p e s m args below meth c ls Q hQ E hP hB hS hl
  have hl : lv_has ls 6 [(0, .ref (am 0)), (1, .int (i32 wi)), (2, .int (i32 i))] := hl
  have iX6 : ∀ w ∈ u_ws RX6 TX6 28, w ∈ wsX6_near := by decide +kernel
  have X : zX D B0 (zj C (layM cA am S U)) s.heap s.heap [] := ⟨hP, hS⟩
  have hI0 := hI.1
  unfold SI0 at hI0
  obtain ⟨b1, b2, b3, b4, b5, b8, b17, b19, b7⟩ := hI0
  unfold zr at hi
  refine z_iconst E dX6_near_0 ?_
  refine z_top ((cntb (nrc S wi) (51 * 0) : Nat) : Int) (rfl) ?_
  refine lv_istore_n (lv' := [(3, .int (i32 ((cntb (nrc S wi) (51 * 0) : Nat) : Int))), (0, .ref (am 0)), (1, .int (i32 wi)), (2, .int (i32 i))]) E.1 E.2.1 dX6_near_1 rfl hl (by decide) rfl (fun ls hl => ?_)
  refine lv_aload_n E.1 E.2.1 dX6_near_2 rfl (lv_at hl 1 rfl) ?_
  refine z_get E X (lM_0 C cA am S U) rfl iX6 1 (by decide) (by decide +kernel) (v := .int (i32 (S 1 0))) rfl dX6_near_3 ?_
  refine z_top (((S 1 0).toNat + 0 : Nat) : Int) (by omega) ?_
  refine lv_istore (lv' := [(4, .int (i32 (((S 1 0).toNat + 0 : Nat) : Int))), (3, .int (i32 ((cntb (nrc S wi) (51 * 0) : Nat) : Int))), (0, .ref (am 0)), (1, .int (i32 wi)), (2, .int (i32 i))]) E.1 E.2.1 dX6_near_6 hl (by decide) rfl (fun ls hl => ?_)
  have key8 : ∀ (N : Nat) (r : Nat) (U : zS) (H : Heap) (locs : List Loc) (ls : Array Slot), ((S 2 0).toNat + 1 - r) < N → ((r : Int) ≤ S 2 0 + 1) → (MC S U) → (fnd (fpl S wi i) (51 * r) = none) → zX D B0 (zj C (layM cA am S U)) s.heap H locs → lv_has ls 6 [(0, .ref (am 0)), (1, .int (i32 wi)), (2, .int (i32 i)), (3, .int (i32 ((cntb (nrc S wi) (51 * r) : Nat) : Int))), (4, .int (i32 (((S 1 0).toNat + r : Nat) : Int)))] → W p l e rX6_near s m args below meth c H locs 0 0 Q (F0 m 8 ls []) := by
    intro N
    induction N with
    | zero => intros; omega
    | succ N ih8 =>
      intro r U H locs ls hN hr hC hf X hl
      refine lv_iload E.1 E.2.1 dX6_near_8 (lv_at hl 4 rfl) ?_
      refine lv_aload_n E.1 E.2.1 dX6_near_10 rfl (lv_at hl 0 rfl) ?_
      refine z_callV (As := []) (rest := [.int (i32 (((S 1 0).toNat + r : Nat) : Int))]) (n := 0) E X (lM_0 C cA am S U) rfl (m_floor l D cA B0 C am S U ) gX6_near_X6_floor rfl (by decide +kernel) ⟨by decide, by decide⟩ rfl hl.1 rfl (Nat.le_of_ble_eq_true rfl) dX6_near_11 ⟨by decide, by decide⟩ X.1 0 0 ⟨rfl, rfl⟩ (fun v H locs hv hS_1 => ?_)
      obtain ⟨rfl, hw⟩ := hv
      replace X : zX D B0 (zj C (layM cA am S U)) s.heap H locs := ⟨hw, hS_1⟩
      refine z_cgt E 69 ⟨by omega, by omega⟩ ⟨by omega, by omega⟩ dX6_near_14 (by decide) (fun h14_2 => ?_) (fun h14_2 => ?_)
      · have hc9 := cntb_le (f := nrc S wi) (51 * r)
        refine lv_iload_n E.1 E.2.1 dX6_near_69 rfl (lv_at hl 2 rfl) ?_
        refine z_bipush E dX6_near_70 (by decide +kernel) ?_
        refine z_cne E 79 ⟨by omega, by omega⟩ ⟨by omega, by omega⟩ dX6_near_72 (by decide) (fun h72_3 => ?_) (fun h72_3 => ?_)
        · refine z_ldc (v := (-99999)) (z := -99999) E (by decide +kernel) (by decide +kernel) dX6_near_79 ?_
          have hen := NRR_end (S := S) (wi := wi) (i := i) (r := r) (by omega) (by omega) hf
          exact z_ret E X hQ (⟨by rw [hen, if_neg (by omega)], U, hC, X.1⟩) dX6_near_81
        · refine lv_iload_n E.1 E.2.1 dX6_near_75 rfl (lv_at hl 3 rfl) ?_
          refine lv_goto (tgt := 81) E.1 E.2.1 dX6_near_76 (by decide) ?_
          have hen := NRR_end (S := S) (wi := wi) (i := i) (r := r) (by omega) (by omega) hf
          exact z_ret E X hQ (⟨by rw [hen, if_pos (by omega)], U, hC, X.1⟩) dX6_near_81
      · have hc9 := cntb_le (f := nrc S wi) (51 * r)
        refine z_iconst E dX6_near_17 ?_
        refine z_top (0 : Int) (rfl) ?_
        refine lv_istore (lv' := [(5, .int (i32 (0 : Int))), (0, .ref (am 0)), (1, .int (i32 wi)), (2, .int (i32 i)), (3, .int (i32 ((cntb (nrc S wi) (51 * r) : Nat) : Int))), (4, .int (i32 (((S 1 0).toNat + r : Nat) : Int)))]) E.1 E.2.1 dX6_near_18 hl (by decide) rfl (fun ls hl => ?_)
        have key20 : ∀ (N : Nat) (x : Nat) (U : zS) (H : Heap) (locs : List Loc) (ls : Array Slot), (51 - x) < N → (x ≤ 51) → (MC S U) → (fnd (fpl S wi i) (51 * r + x) = none) → zX D B0 (zj C (layM cA am S U)) s.heap H locs → lv_has ls 6 [(0, .ref (am 0)), (1, .int (i32 wi)), (2, .int (i32 i)), (3, .int (i32 ((cntb (nrc S wi) (51 * r + x) : Nat) : Int))), (4, .int (i32 (((S 1 0).toNat + r : Nat) : Int))), (5, .int (i32 (x : Int)))] → W p l e rX6_near s m args below meth c H locs 0 0 Q (F0 m 20 ls []) := by
          intro N
          induction N with
          | zero => intros; omega
          | succ N ih20 =>
            intro x U H locs ls hN hx hC hf X hl
            refine lv_iload E.1 E.2.1 dX6_near_20 (lv_at hl 5 rfl) ?_
            refine z_bipush E dX6_near_22 (by decide +kernel) ?_
            refine z_cge E 63 ⟨by omega, by omega⟩ ⟨by omega, by omega⟩ dX6_near_24 (by decide) (fun h24_4 => ?_) (fun h24_4 => ?_)
            · have ex : 51 * r + x = 51 * (r + 1) := by omega
              rw [ex] at hl hf
              refine z_iinc (lv' := [(4, .int (i32 (((S 1 0).toNat + r + 1 : Nat) : Int))), (0, .ref (am 0)), (1, .int (i32 wi)), (2, .int (i32 i)), (3, .int (i32 ((cntb (nrc S wi) (51 * (r + 1)) : Nat) : Int))), (5, .int (i32 (x : Int)))]) E dX6_near_63 hl (k := 4) rfl (by decide) rfl (fun ls hl => ?_)
              refine lv_goto (tgt := 8) E.1 E.2.1 dX6_near_66 (by decide) ?_
              exact ih8 (r + 1) U _ _ _ (by omega) (by omega) hC hf X (lv_sub hl [1, 2, 3, 4, 0] rfl)
            · have hc9 := cntb_le (f := nrc S wi) (51 * r + x)
              refine lv_aload_n E.1 E.2.1 dX6_near_27 rfl (lv_at hl 0 rfl) ?_
              refine lv_iload E.1 E.2.1 dX6_near_28 (lv_at hl 5 rfl) ?_
              refine lv_iload E.1 E.2.1 dX6_near_30 (lv_at hl 4 rfl) ?_
              refine lv_iload_n E.1 E.2.1 dX6_near_32 rfl (lv_at hl 1 rfl) ?_
              refine z_callV (As := [.int (i32 (x : Int)), .int (i32 (((S 1 0).toNat + r : Nat) : Int)), .int (i32 wi)]) (rest := []) (n := 3) E X (lM_0 C cA am S U) rfl (m_isNear l D cA B0 C am S U hI hC x ((S 1 0).toNat + r) wi (by omega) (by omega) (by omega)) gX6_near_X6_isNear rfl (by decide +kernel) ⟨by decide, by decide⟩ rfl hl.1 rfl (Nat.le_of_ble_eq_true rfl) dX6_near_33 ⟨by decide, by decide⟩ X.1 0 0 ⟨rfl, rfl⟩ (fun v H locs hv hS_5 => ?_)
              obtain ⟨⟨z_7, rfl, ez_7⟩, U_6, hC, hw⟩ := hv
              replace X : zX D B0 (zj C (layM cA am S U_6)) s.heap H locs := ⟨hw, hS_5⟩
              have hzz : (nearb S wi x ((S 1 0).toNat + r) = true ∧ z_7 = 1) ∨ (nearb S wi x ((S 1 0).toNat + r) = false ∧ z_7 = 0) := by
                rw [ez_7]
                cases nearb S wi x ((S 1 0).toNat + r)
                · exact Or.inr ⟨rfl, rfl⟩
                · exact Or.inl ⟨rfl, rfl⟩
              have hz01 : z_7 = 0 ∨ z_7 = 1 := by rcases hzz with q | q <;> omega
              clear ez_7
              refine z_feq E 57 ⟨by omega, by omega⟩ dX6_near_36 (by decide) (fun h36_8 => ?_) (fun h36_8 => ?_)
              · have ecn : cntb (nrc S wi) (51 * r + (x + 1)) = cntb (nrc S wi) (51 * r + x) := by
                  refine cntb_n (n := 51 * r + x) ?_
                  rw [nrc_at (by omega)]
                  rcases hzz with q | q
                  · omega
                  · exact q.1
                have hms := fpl_miss (S := S) (wi := wi) (i := i) (r := r) (x := x) (by omega) (Or.inl (by rcases hzz with q | q; exact absurd q.2 (by omega); exact q.1))
                have hl : lv_has ls 6 [(0, .ref (am 0)), (1, .int (i32 wi)), (2, .int (i32 i)), (3, .int (i32 ((cntb (nrc S wi) (51 * r + (x + 1)) : Nat) : Int))), (4, .int (i32 (((S 1 0).toNat + r : Nat) : Int))), (5, .int (i32 (x : Int)))] := by rw [ecn]; exact hl
                refine z_iinc (lv' := [(5, .int (i32 ((x + 1 : Nat) : Int))), (0, .ref (am 0)), (1, .int (i32 wi)), (2, .int (i32 i)), (3, .int (i32 ((cntb (nrc S wi) (51 * r + (x + 1)) : Nat) : Int))), (4, .int (i32 (((S 1 0).toNat + r : Nat) : Int)))]) E dX6_near_57 hl (k := 5) rfl (by decide) rfl (fun ls hl => ?_)
                refine lv_goto (tgt := 20) E.1 E.2.1 dX6_near_60 (by decide) ?_
                exact ih20 (x + 1) U_6 _ _ _ (by omega) (by omega) hC (fnd_S hf hms) X (lv_sub hl [1, 2, 3, 4, 5, 0] rfl)
              · refine lv_iload_n E.1 E.2.1 dX6_near_39 rfl (lv_at hl 3 rfl) ?_
                refine lv_iload_n E.1 E.2.1 dX6_near_40 rfl (lv_at hl 2 rfl) ?_
                refine z_cne E 54 ⟨by omega, by omega⟩ ⟨by omega, by omega⟩ dX6_near_41 (by decide) (fun h41_9 => ?_) (fun h41_9 => ?_)
                · refine z_iinc (lv' := [(3, .int (i32 ((cntb (nrc S wi) (51 * r + x) + 1 : Nat) : Int))), (0, .ref (am 0)), (1, .int (i32 wi)), (2, .int (i32 i)), (4, .int (i32 (((S 1 0).toNat + r : Nat) : Int))), (5, .int (i32 (x : Int)))]) E dX6_near_54 hl (k := 3) rfl (by decide) rfl (fun ls hl => ?_)
                  have ecn : cntb (nrc S wi) (51 * r + (x + 1)) = cntb (nrc S wi) (51 * r + x) + 1 := by
                    refine cntb_y (n := 51 * r + x) ?_
                    rw [nrc_at (by omega)]
                    rcases hzz with q | q
                    · exact q.1
                    · omega
                  have hms := fpl_miss (S := S) (wi := wi) (i := i) (r := r) (x := x) (by omega) (Or.inr (by omega))
                  have hl : lv_has ls 6 [(3, .int (i32 ((cntb (nrc S wi) (51 * r + (x + 1)) : Nat) : Int))), (0, .ref (am 0)), (1, .int (i32 wi)), (2, .int (i32 i)), (4, .int (i32 (((S 1 0).toNat + r : Nat) : Int))), (5, .int (i32 (x : Int)))] := by rw [ecn]; exact hl
                  refine z_iinc (lv' := [(5, .int (i32 ((x + 1 : Nat) : Int))), (3, .int (i32 ((cntb (nrc S wi) (51 * r + (x + 1)) : Nat) : Int))), (0, .ref (am 0)), (1, .int (i32 wi)), (2, .int (i32 i)), (4, .int (i32 (((S 1 0).toNat + r : Nat) : Int)))]) E dX6_near_57 hl (k := 5) rfl (by decide) rfl (fun ls hl => ?_)
                  refine lv_goto (tgt := 20) E.1 E.2.1 dX6_near_60 (by decide) ?_
                  exact ih20 (x + 1) U_6 _ _ _ (by omega) (by omega) hC (fnd_S hf hms) X (lv_sub hl [2, 3, 4, 1, 5, 0] rfl)
                · refine z_sipush E dX6_near_44 (by decide +kernel) ?_
                  refine lv_iload E.1 E.2.1 dX6_near_47 (lv_at hl 5 rfl) ?_
                  refine z_imul E dX6_near_49 ?_
                  refine lv_iload E.1 E.2.1 dX6_near_50 (lv_at hl 4 rfl) ?_
                  refine z_iadd E dX6_near_52 ?_
                  have hnn : nearb S wi x ((S 1 0).toNat + r) = true := by rcases hzz with q | q; exact q.1; exact absurd q.2 (by omega)
                  have hit := NRR_hit (S := S) (wi := wi) (i := i) (r := r) (x := x) (by omega) (by omega) (by omega) hf hnn (by omega)
                  exact z_ret E X hQ (⟨by rw [hit], U_6, hC, X.1⟩) dX6_near_53
        exact key20 ((51 - 0) + 1) 0 U _ _ _ (by omega) (by omega) hC hf X (lv_sub hl [1, 2, 3, 4, 5, 0] rfl)
  exact key8 (((S 2 0).toNat + 1 - 0) + 1) 0 U _ _ _ (by omega) (by omega) hC rfl X (lv_sub hl [2, 3, 4, 1, 0] rfl)

abbrev rX6_as : Room := { frames := 0, cells := 0, slots := 0, locals := 0 }
set_option maxHeartbeats 4000000 in
set_option maxRecDepth 100000 in
theorem c_as (l : Launch) (D : va_G) (cA : Nat → ClassId) (B0 : Nat) (H0 : Heap) (k z : Int) (hk : 0 ≤ k ∧ k ≤ 2) (hz : -5000000000 ≤ z ∧ z ≤ 5000000000) : zM l yX6_as wsX6_as rX6_as [.int (i32 k), .long (i64 z)] D cA B0 (fun H => H = H0) (fun v H => H = H0 ∧ v = some (.int (i32 (AS k z)))) := by
  refine z_met (cc := cX6_as) (maxL := 5) (ret := (some .int)) (by decide) rfl (Nat.le_of_ble_eq_true rfl) ?_
  intro p e s m args below meth c ls Q hQ E hP hB hS hl
  have hl : lv_has ls 5 [(0, .int (i32 k)), (1, .long (i64 z))] := hl
  have X : zX D B0 zL0 s.heap s.heap [] := zX_none hB hS
  refine lv_iload_n E.1 E.2.1 dX6_as_0 rfl (lv_at hl 0 rfl) ?_
  refine z_fne E 10 ⟨by omega, by omega⟩ dX6_as_1 (by decide) (fun h1_1 => ?_) (fun h1_1 => ?_)
  · refine lv_iload_n E.1 E.2.1 dX6_as_10 rfl (lv_at hl 0 rfl) ?_
    refine z_iconst E dX6_as_11 ?_
    refine z_cne E 21 ⟨by omega, by omega⟩ ⟨by omega, by omega⟩ dX6_as_12 (by decide) (fun h12_2 => ?_) (fun h12_2 => ?_)
    · refine z_ldc2 (v := 2147483647) (z := 2147483647) E (by decide +kernel) (by decide +kernel) dX6_as_21 ?_
      refine lv_lstore_n (lv' := [(3, .long (i64 2147483647)), (0, .int (i32 k)), (1, .long (i64 z))]) E.1 E.2.1 dX6_as_24 rfl hl (by decide) rfl (fun ls hl => ?_)
      refine lv_lload_n E.1 E.2.1 dX6_as_25 rfl (lv_at hl 2 rfl) ?_
      refine lv_lload_n E.1 E.2.1 dX6_as_26 rfl (lv_at hl 0 rfl) ?_
      refine z_lcmp E ⟨by omega, by omega⟩ ⟨by omega, by omega⟩ dX6_as_27 (fun z_3 hrz_3 hlz_3 hez_3 => ?_)
      unfold zr at hrz_3
      refine z_fle E 35 ⟨by omega, by omega⟩ dX6_as_28 (by decide) (fun h28_4 => ?_) (fun h28_4 => ?_)
      · refine lv_lload_n E.1 E.2.1 dX6_as_35 rfl (lv_at hl 2 rfl) ?_
        refine lv_lload_n E.1 E.2.1 dX6_as_36 rfl (lv_at hl 0 rfl) ?_
        refine z_lneg E dX6_as_37 ?_
        refine z_lconst (z := 1) E dX6_as_38 (by decide +kernel) ?_
        refine z_lsub E dX6_as_39 ?_
        refine z_lcmp E ⟨by omega, by omega⟩ ⟨by omega, by omega⟩ dX6_as_40 (fun z_5 hrz_5 hlz_5 hez_5 => ?_)
        unfold zr at hrz_5
        refine z_fge E 51 ⟨by omega, by omega⟩ dX6_as_41 (by decide) (fun h41_6 => ?_) (fun h41_6 => ?_)
        · refine lv_lload_n E.1 E.2.1 dX6_as_51 rfl (lv_at hl 2 rfl) ?_
          refine z_l2i E dX6_as_52 ?_
          have eas : z = AS k z := by
            unfold AS LN
            repeat' split
            all_goals omega
          exact z_ret E X hQ (⟨hP, congrArg (fun w => some (Value.int (i32 w))) eas⟩) dX6_as_53
        · refine lv_lload_n E.1 E.2.1 dX6_as_44 rfl (lv_at hl 0 rfl) ?_
          refine z_lneg E dX6_as_45 ?_
          refine z_lconst (z := 1) E dX6_as_46 (by decide +kernel) ?_
          refine z_lsub E dX6_as_47 ?_
          refine lv_goto (tgt := 52) E.1 E.2.1 dX6_as_48 (by decide) ?_
          refine z_l2i E dX6_as_52 ?_
          have eas : (-2147483647) - 1 = AS k z := by
            unfold AS LN
            repeat' split
            all_goals omega
          exact z_ret E X hQ (⟨hP, congrArg (fun w => some (Value.int (i32 w))) eas⟩) dX6_as_53
      · refine lv_lload_n E.1 E.2.1 dX6_as_31 rfl (lv_at hl 0 rfl) ?_
        refine lv_goto (tgt := 52) E.1 E.2.1 dX6_as_32 (by decide) ?_
        refine z_l2i E dX6_as_52 ?_
        have eas : 2147483647 = AS k z := by
          unfold AS LN
          repeat' split
          all_goals omega
        exact z_ret E X hQ (⟨hP, congrArg (fun w => some (Value.int (i32 w))) eas⟩) dX6_as_53
    · refine z_ldc2 (v := 32767) (z := 32767) E (by decide +kernel) (by decide +kernel) dX6_as_15 ?_
      refine lv_goto (tgt := 24) E.1 E.2.1 dX6_as_18 (by decide) ?_
      refine lv_lstore_n (lv' := [(3, .long (i64 32767)), (0, .int (i32 k)), (1, .long (i64 z))]) E.1 E.2.1 dX6_as_24 rfl hl (by decide) rfl (fun ls hl => ?_)
      refine lv_lload_n E.1 E.2.1 dX6_as_25 rfl (lv_at hl 2 rfl) ?_
      refine lv_lload_n E.1 E.2.1 dX6_as_26 rfl (lv_at hl 0 rfl) ?_
      refine z_lcmp E ⟨by omega, by omega⟩ ⟨by omega, by omega⟩ dX6_as_27 (fun z_7 hrz_7 hlz_7 hez_7 => ?_)
      unfold zr at hrz_7
      refine z_fle E 35 ⟨by omega, by omega⟩ dX6_as_28 (by decide) (fun h28_8 => ?_) (fun h28_8 => ?_)
      · refine lv_lload_n E.1 E.2.1 dX6_as_35 rfl (lv_at hl 2 rfl) ?_
        refine lv_lload_n E.1 E.2.1 dX6_as_36 rfl (lv_at hl 0 rfl) ?_
        refine z_lneg E dX6_as_37 ?_
        refine z_lconst (z := 1) E dX6_as_38 (by decide +kernel) ?_
        refine z_lsub E dX6_as_39 ?_
        refine z_lcmp E ⟨by omega, by omega⟩ ⟨by omega, by omega⟩ dX6_as_40 (fun z_9 hrz_9 hlz_9 hez_9 => ?_)
        unfold zr at hrz_9
        refine z_fge E 51 ⟨by omega, by omega⟩ dX6_as_41 (by decide) (fun h41_10 => ?_) (fun h41_10 => ?_)
        · refine lv_lload_n E.1 E.2.1 dX6_as_51 rfl (lv_at hl 2 rfl) ?_
          refine z_l2i E dX6_as_52 ?_
          have eas : z = AS k z := by
            unfold AS LN
            repeat' split
            all_goals omega
          exact z_ret E X hQ (⟨hP, congrArg (fun w => some (Value.int (i32 w))) eas⟩) dX6_as_53
        · refine lv_lload_n E.1 E.2.1 dX6_as_44 rfl (lv_at hl 0 rfl) ?_
          refine z_lneg E dX6_as_45 ?_
          refine z_lconst (z := 1) E dX6_as_46 (by decide +kernel) ?_
          refine z_lsub E dX6_as_47 ?_
          refine lv_goto (tgt := 52) E.1 E.2.1 dX6_as_48 (by decide) ?_
          refine z_l2i E dX6_as_52 ?_
          have eas : (-32767) - 1 = AS k z := by
            unfold AS LN
            repeat' split
            all_goals omega
          exact z_ret E X hQ (⟨hP, congrArg (fun w => some (Value.int (i32 w))) eas⟩) dX6_as_53
      · refine lv_lload_n E.1 E.2.1 dX6_as_31 rfl (lv_at hl 0 rfl) ?_
        refine lv_goto (tgt := 52) E.1 E.2.1 dX6_as_32 (by decide) ?_
        refine z_l2i E dX6_as_52 ?_
        have eas : 32767 = AS k z := by
          unfold AS LN
          repeat' split
          all_goals omega
        exact z_ret E X hQ (⟨hP, congrArg (fun w => some (Value.int (i32 w))) eas⟩) dX6_as_53
  · refine z_ldc2 (v := 127) (z := 127) E (by decide +kernel) (by decide +kernel) dX6_as_4 ?_
    refine lv_goto (tgt := 24) E.1 E.2.1 dX6_as_7 (by decide) ?_
    refine lv_lstore_n (lv' := [(3, .long (i64 127)), (0, .int (i32 k)), (1, .long (i64 z))]) E.1 E.2.1 dX6_as_24 rfl hl (by decide) rfl (fun ls hl => ?_)
    refine lv_lload_n E.1 E.2.1 dX6_as_25 rfl (lv_at hl 2 rfl) ?_
    refine lv_lload_n E.1 E.2.1 dX6_as_26 rfl (lv_at hl 0 rfl) ?_
    refine z_lcmp E ⟨by omega, by omega⟩ ⟨by omega, by omega⟩ dX6_as_27 (fun z_11 hrz_11 hlz_11 hez_11 => ?_)
    unfold zr at hrz_11
    refine z_fle E 35 ⟨by omega, by omega⟩ dX6_as_28 (by decide) (fun h28_12 => ?_) (fun h28_12 => ?_)
    · refine lv_lload_n E.1 E.2.1 dX6_as_35 rfl (lv_at hl 2 rfl) ?_
      refine lv_lload_n E.1 E.2.1 dX6_as_36 rfl (lv_at hl 0 rfl) ?_
      refine z_lneg E dX6_as_37 ?_
      refine z_lconst (z := 1) E dX6_as_38 (by decide +kernel) ?_
      refine z_lsub E dX6_as_39 ?_
      refine z_lcmp E ⟨by omega, by omega⟩ ⟨by omega, by omega⟩ dX6_as_40 (fun z_13 hrz_13 hlz_13 hez_13 => ?_)
      unfold zr at hrz_13
      refine z_fge E 51 ⟨by omega, by omega⟩ dX6_as_41 (by decide) (fun h41_14 => ?_) (fun h41_14 => ?_)
      · refine lv_lload_n E.1 E.2.1 dX6_as_51 rfl (lv_at hl 2 rfl) ?_
        refine z_l2i E dX6_as_52 ?_
        have eas : z = AS k z := by
          unfold AS LN
          repeat' split
          all_goals omega
        exact z_ret E X hQ (⟨hP, congrArg (fun w => some (Value.int (i32 w))) eas⟩) dX6_as_53
      · refine lv_lload_n E.1 E.2.1 dX6_as_44 rfl (lv_at hl 0 rfl) ?_
        refine z_lneg E dX6_as_45 ?_
        refine z_lconst (z := 1) E dX6_as_46 (by decide +kernel) ?_
        refine z_lsub E dX6_as_47 ?_
        refine lv_goto (tgt := 52) E.1 E.2.1 dX6_as_48 (by decide) ?_
        refine z_l2i E dX6_as_52 ?_
        have eas : (-127) - 1 = AS k z := by
          unfold AS LN
          repeat' split
          all_goals omega
        exact z_ret E X hQ (⟨hP, congrArg (fun w => some (Value.int (i32 w))) eas⟩) dX6_as_53
    · refine lv_lload_n E.1 E.2.1 dX6_as_31 rfl (lv_at hl 0 rfl) ?_
      refine lv_goto (tgt := 52) E.1 E.2.1 dX6_as_32 (by decide) ?_
      refine z_l2i E dX6_as_52 ?_
      have eas : 127 = AS k z := by
        unfold AS LN
        repeat' split
        all_goals omega
      exact z_ret E X hQ (⟨hP, congrArg (fun w => some (Value.int (i32 w))) eas⟩) dX6_as_53

