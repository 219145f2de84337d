abbrev rX1_floor : Room := { frames := 0, cells := 0, slots := 0, locals := 0 }
set_option maxHeartbeats 4000000 in
set_option maxRecDepth 100000 in
theorem L_floor (l : Launch) (D : va_G) (cA : Nat → ClassId) (B0 : Nat) (R : zL) (h : Nat → Nat) (T : zS) : zM l yX1_floor wsX1_floor rX1_floor [.ref (h 0)] D cA B0 (zW D B0 (zl (layL cA h T) R)) (fun v H => v = some (.int (i32 (T 0 0 + T 1 0))) ∧ zW D B0 (zl (layL cA h T) R) H) := by
  refine z_met (cc := cX1_floor) (maxL := 1) (ret := (some .int)) (by decide) rfl (Nat.le_of_ble_eq_true rfl) ?_
  intro p e s m args below meth c ls Q hQ E hP hB hS hl
  have hl : lv_has ls 1 [(0, .ref (h 0))] := hl
  have iX1 : ∀ w ∈ u_ws RX1 TX1 5, w ∈ wsX1_floor := by decide +kernel
  have X : zX D B0 (zl (layL cA h T) R) s.heap s.heap [] := ⟨hP, hS⟩
  refine lv_aload_n E.1 E.2.1 dX1_floor_0 rfl (lv_at hl 0 rfl) ?_
  refine z_get E X (lL_0 R cA h T) rfl iX1 0 (by decide) (by decide +kernel) (v := .int (i32 (T 0 0))) rfl dX1_floor_1 ?_
  refine lv_aload_n E.1 E.2.1 dX1_floor_4 rfl (lv_at hl 0 rfl) ?_
  refine z_get E X (lL_0 R cA h T) rfl iX1 1 (by decide) (by decide +kernel) (v := .int (i32 (T 1 0))) rfl dX1_floor_5 ?_
  refine z_iadd E dX1_floor_8 ?_
  exact z_ret E X hQ (⟨rfl, X.1⟩) dX1_floor_9

abbrev rX1_holds : Room := { frames := 1, cells := 0, slots := 0, locals := 22 }
set_option maxHeartbeats 4000000 in
set_option maxRecDepth 100000 in
theorem L_holds (l : Launch) (D : va_G) (cA : Nat → ClassId) (B0 : Nat) (R : zL) (h : Nat → Nat) (T : zS) (hT : (0 ≤ T 0 0 ∧ T 0 0 ≤ 20) ∧ (1 ≤ T 1 0 ∧ T 1 0 ≤ 30)) (x y : Int) (hx : zr x) (hy : zr y) : zM l yX1_holds wsX1_holds rX1_holds [.ref (h 0), .int (i32 x), .int (i32 y)] D cA B0 (zW D B0 (zl (layL cA h T) R)) (fun v H => (∃ z : Int, v = some (.int (i32 z)) ∧ (z = 1 ∧ (0 ≤ x ∧ x ≤ 50 ∧ T 0 0 ≤ y ∧ y ≤ T 0 0 + T 1 0) ∨ z = 0 ∧ ¬ (0 ≤ x ∧ x ≤ 50 ∧ T 0 0 ≤ y ∧ y ≤ T 0 0 + T 1 0))) ∧ zW D B0 (zl (layL cA h T) R) H) := by
  refine z_met (cc := cX1_holds) (maxL := 3) (ret := (some .boolean)) (by decide) rfl (Nat.le_of_ble_eq_true rfl) ?_
  intro p e s m args below meth c ls Q hQ E hP hB hS hl
  have hl : lv_has ls 3 [(0, .ref (h 0)), (1, .int (i32 x)), (2, .int (i32 y))] := hl
  have iX1 : ∀ w ∈ u_ws RX1 TX1 5, w ∈ wsX1_holds := by decide +kernel
  have X : zX D B0 (zl (layL cA h T) R) s.heap s.heap [] := ⟨hP, hS⟩
  unfold zr at hx hy
  refine lv_iload_n E.1 E.2.1 dX1_holds_0 rfl (lv_at hl 1 rfl) ?_
  refine z_iconst E dX1_holds_1 ?_
  refine z_bipush E dX1_holds_2 (by decide +kernel) ?_
  refine z_callN (As := [.int (i32 x), .int (i32 0), .int (i32 50)]) (rest := []) (n := 3) E X (c_outside l D cA B0 _ x 0 50 ⟨by omega, by omega⟩ ⟨by omega, by omega⟩ ⟨by omega, by omega⟩) gX1_holds_X5_outside_n37 rfl (by decide +kernel) (by decide +kernel) (by decide +kernel) ⟨by decide, by decide⟩ rfl hl.1 rfl (Nat.le_of_ble_eq_true rfl) dX1_holds_4 ⟨by decide, by decide⟩ rfl 0 0 ⟨rfl, rfl⟩ (fun v H locs hv hS_1 => ?_)
  obtain ⟨hH, z_2, rfl, ez_2⟩ := hv
  subst hH
  replace X := X.same hS_1
  refine z_fne E 34 ⟨by omega, by omega⟩ dX1_holds_7 (by decide) (fun h7_3 => ?_) (fun h7_3 => ?_)
  · refine z_iconst E dX1_holds_34 ?_
    exact z_retz E X hQ (by omega) (⟨⟨0, rfl, by omega⟩, X.1⟩) dX1_holds_35
  · refine lv_iload_n E.1 E.2.1 dX1_holds_10 rfl (lv_at hl 2 rfl) ?_
    refine lv_aload_n E.1 E.2.1 dX1_holds_11 rfl (lv_at hl 0 rfl) ?_
    refine z_get E X (lL_0 R cA h T) rfl iX1 0 (by decide) (by decide +kernel) (v := .int (i32 (T 0 0))) rfl dX1_holds_12 ?_
    refine lv_aload_n E.1 E.2.1 dX1_holds_15 rfl (lv_at hl 0 rfl) ?_
    refine z_get E X (lL_0 R cA h T) rfl iX1 0 (by decide) (by decide +kernel) (v := .int (i32 (T 0 0))) rfl dX1_holds_16 ?_
    refine lv_aload_n E.1 E.2.1 dX1_holds_19 rfl (lv_at hl 0 rfl) ?_
    refine z_get E X (lL_0 R cA h T) rfl iX1 1 (by decide) (by decide +kernel) (v := .int (i32 (T 1 0))) rfl dX1_holds_20 ?_
    refine z_iadd E dX1_holds_23 ?_
    refine z_callN (As := [.int (i32 y), .int (i32 (T 0 0)), .int (i32 ((T 0 0) + (T 1 0)))]) (rest := []) (n := 3) E X (c_outside l D cA B0 _ y (T 0 0) ((T 0 0) + (T 1 0)) ⟨by omega, by omega⟩ ⟨by omega, by omega⟩ ⟨by omega, by omega⟩) gX1_holds_X5_outside_n37 rfl (by decide +kernel) (by decide +kernel) (by decide +kernel) ⟨by decide, by decide⟩ rfl hl.1 rfl (Nat.le_of_ble_eq_true rfl) dX1_holds_24 ⟨by decide, by decide⟩ rfl 0 0 ⟨rfl, rfl⟩ (fun v H locs hv hS_4 => ?_)
    obtain ⟨hH, z_5, rfl, ez_5⟩ := hv
    subst hH
    replace X := X.same hS_4
    refine z_fne E 34 ⟨by omega, by omega⟩ dX1_holds_27 (by decide) (fun h27_6 => ?_) (fun h27_6 => ?_)
    · refine z_iconst E dX1_holds_34 ?_
      exact z_retz E X hQ (by omega) (⟨⟨0, rfl, by omega⟩, X.1⟩) dX1_holds_35
    · refine z_iconst E dX1_holds_30 ?_
      refine lv_goto (tgt := 35) E.1 E.2.1 dX1_holds_31 (by decide) ?_
      exact z_retz E X hQ (by omega) (⟨⟨1, rfl, by omega⟩, X.1⟩) dX1_holds_35

/-- while a row is filled: below n it stands -/
def fiI (T : zS) (row n : Nat) (k dy : Int) (T' : zS) : Prop := (∀ q : Nat, q ≠ 3 → T' q = T q) ∧ (∀ q : Nat, q < 51 * row ∨ 51 * row + 51 ≤ q → T' 3 q = T 3 q) ∧ ∀ dx : Nat, dx < n → T' 3 (51 * row + dx) = tk k (dx : Int) dy
theorem fiI_0 {T : zS} {row : Nat} {k dy : Int} : fiI T row 0 k dy T := ⟨fun _ _ => rfl, fun _ _ => rfl, fun dx h => absurd h (Nat.not_lt_zero dx)⟩
theorem fiI_S {T T' : zS} {row n : Nat} {k dy z : Int} (h : fiI T row n k dy T') (hn : n < 51) (hz : z = tk k (n : Int) dy) : fiI T row (n + 1) k dy (zs T' 3 (51 * row + n) z) := by
  obtain ⟨h1, h2, h3⟩ := h
  refine ⟨fun q hq => by rw [zs_ne hq]; exact h1 q hq, fun q hq => ?_, fun dx hd => ?_⟩
  · rw [zs_eq, zg_ne (by omega)]
    exact h2 q hq
  · rw [zs_eq]
    by_cases e : dx = n
    · rw [e, zg_eq, hz]
    · rw [zg_ne (by omega)]
      exact h3 dx (by omega)
theorem fiI_end {T T' : zS} {row : Nat} {k dy : Int} (h : fiI T row 51 k dy T') : LF T (zs T' 4 row 1) row k dy := by
  obtain ⟨h1, h2, h3⟩ := h
  refine ⟨fun q a b => by rw [zs_ne b]; exact h1 q a, by rw [zs_eq, h1 4 (by decide)], fun q hq => by rw [zs_ne (by decide)]; exact h2 q hq, fun dx hd => by rw [zs_ne (by decide)]; exact h3 dx hd⟩
theorem sq_step {k dy : Int} {n : Nat} : k * k * ((n : Int) * (n : Int) + dy * dy) ≤ k * k * (((n + 1 : Nat) : Int) * ((n + 1 : Nat) : Int) + dy * dy) := by
  have hk : 0 ≤ k * k := by
    rcases Int.le_total 0 k with q | q
    · exact Int.mul_nonneg q q
    · rw [← Int.neg_mul_neg]
      exact Int.mul_nonneg (by omega) (by omega)
  have hn : (n : Int) * (n : Int) ≤ ((n + 1 : Nat) : Int) * ((n + 1 : Nat) : Int) := Int.mul_le_mul (by omega) (by omega) (by omega) (by omega)
  exact Int.mul_le_mul_of_nonneg_left (by omega) hk
theorem sq_start {k dy : Int} : (k * dy) * (k * dy) = k * k * (((0 : Nat) : Int) * ((0 : Nat) : Int) + dy * dy) := by
  rw [show ((0 : Nat) : Int) * ((0 : Nat) : Int) + dy * dy = dy * dy by simp]
  rw [Int.mul_assoc, Int.mul_left_comm dy k dy, ← Int.mul_assoc]
abbrev rX1_fillRow : Room := { frames := 1, cells := 0, slots := 0, locals := 22 }
set_option maxHeartbeats 4000000 in
set_option maxRecDepth 100000 in
theorem L_fillRow (l : Launch) (D : va_G) (cA : Nat → ClassId) (B0 : Nat) (R : zL) (h : Nat → Nat) (T : zS) (row : Nat) (dy k : Int) (hrow : row ≤ 32) (hdy : 0 ≤ dy ∧ dy ≤ 30) (hk : 0 ≤ k ∧ k ≤ 8) : zM l yX1_fillRow wsX1_fillRow rX1_fillRow [.ref (h 0), .int (i32 (row : Int)), .int (i32 dy), .int (i32 k)] D cA B0 (zW D B0 (zl (layL cA h T) R)) (fun v H => v = none ∧ ∃ T' : zS, LF T T' row k dy ∧ zW D B0 (zl (layL cA h T') R) H) := by
  refine z_met (cc := cX1_fillRow) (maxL := 7) (ret := none) (by decide) rfl (Nat.le_of_ble_eq_true rfl) ?_
  intro p e s m args below meth c ls Q hQ E hP hB hS hl
  have hl : lv_has ls 7 [(0, .ref (h 0)), (1, .int (i32 (row : Int))), (2, .int (i32 dy)), (3, .int (i32 k))] := hl
  have iX1 : ∀ w ∈ u_ws RX1 TX1 5, w ∈ wsX1_fillRow := by decide +kernel
  have X : zX D B0 (zl (layL cA h T) R) s.heap s.heap [] := ⟨hP, hS⟩
  refine lv_iload_n E.1 E.2.1 dX1_fillRow_0 rfl (lv_at hl 1 rfl) ?_
  refine z_iconst E dX1_fillRow_1 ?_
  refine z_bipush E dX1_fillRow_2 (by decide +kernel) ?_
  refine z_callN (As := [.int (i32 (row : Int)), .int (i32 0), .int (i32 32)]) (rest := []) (n := 3) E X (c_outside l D cA B0 _ (row : Int) 0 32 ⟨by omega, by omega⟩ ⟨by omega, by omega⟩ ⟨by omega, by omega⟩) gX1_fillRow_X5_outside_n37 rfl (by decide +kernel) (by decide +kernel) (by decide +kernel) ⟨by decide, by decide⟩ rfl hl.1 rfl (Nat.le_of_ble_eq_true rfl) dX1_fillRow_4 ⟨by decide, by decide⟩ rfl 0 0 ⟨rfl, rfl⟩ (fun v H locs hv hS_1 => ?_)
  obtain ⟨hH, z_2, rfl, ez_2⟩ := hv
  subst hH
  replace X := X.same hS_1
  refine z_feq E 11 ⟨by omega, by omega⟩ dX1_fillRow_7 (by decide) (fun h7_3 => ?_) (fun h7_3 => ?_)
  · refine lv_iload_n E.1 E.2.1 dX1_fillRow_11 rfl (lv_at hl 3 rfl) ?_
    refine lv_iload_n E.1 E.2.1 dX1_fillRow_12 rfl (lv_at hl 2 rfl) ?_
    refine z_imul E dX1_fillRow_13 ?_
    refine lv_istore (lv' := [(4, .int (i32 (k * dy))), (0, .ref (h 0)), (1, .int (i32 (row : Int))), (2, .int (i32 dy)), (3, .int (i32 k))]) E.1 E.2.1 dX1_fillRow_14 hl (by decide) rfl (fun ls hl => ?_)
    refine z_iconst E dX1_fillRow_16 ?_
    refine z_top (0 : Int) (rfl) ?_
    refine lv_istore (lv' := [(5, .int (i32 (0 : Int))), (4, .int (i32 (k * dy))), (0, .ref (h 0)), (1, .int (i32 (row : Int))), (2, .int (i32 dy)), (3, .int (i32 k))]) E.1 E.2.1 dX1_fillRow_17 hl (by decide) rfl (fun ls hl => ?_)
    have key19 : ∀ (N : Nat) (n : Nat) (t0 : Int) (T' : zS) (H : Heap) (locs : List Loc) (ls : Array Slot), (51 - n) < N → (n ≤ 51) → (0 ≤ t0) → (t0 * t0 ≤ k * k * ((n : Int) * (n : Int) + dy * dy)) → (fiI T row n k dy T') → zX D B0 (zl (layL cA h T') R) s.heap H locs → lv_has ls 7 [(0, .ref (h 0)), (1, .int (i32 (row : Int))), (2, .int (i32 dy)), (3, .int (i32 k)), (4, .int (i32 t0)), (5, .int (i32 (n : Int)))] → W p l e rX1_fillRow s m args below meth c H locs 0 0 Q (F0 m 19 ls []) := by
      intro N
      induction N with
      | zero => intros; omega
      | succ N ih19 =>
        intro n t0 T' H locs ls hN hn h0 h2 hT X hl
        refine lv_iload E.1 E.2.1 dX1_fillRow_19 (lv_at hl 5 rfl) ?_
        refine z_bipush E dX1_fillRow_21 (by decide +kernel) ?_
        refine z_cgt E 81 ⟨by omega, by omega⟩ ⟨by omega, by omega⟩ dX1_fillRow_23 (by decide) (fun h23_4 => ?_) (fun h23_4 => ?_)
        · refine lv_aload_n E.1 E.2.1 dX1_fillRow_81 rfl (lv_at hl 0 rfl) ?_
          refine z_get E X (lL_0 R cA h T') rfl iX1 4 (by decide) (by decide +kernel) (v := .ref (h 4)) rfl dX1_fillRow_82 ?_
          refine lv_iload_n E.1 E.2.1 dX1_fillRow_85 rfl (lv_at hl 1 rfl) ?_
          refine z_iconst E dX1_fillRow_86 ?_
          refine z_zast E X (lL_4 R cA h T') (by omega) row (by omega) (by omega) (by decide) dX1_fillRow_87 (fun H locs X => ?_)
          have X := la_4 X
          have en : n = 51 := by omega
          rw [en] at hT
          exact z_retv E X hQ (⟨rfl, _, fiI_end hT, X.1⟩) dX1_fillRow_88
        · refine lv_iload_n E.1 E.2.1 dX1_fillRow_26 rfl (lv_at hl 3 rfl) ?_
          refine lv_iload_n E.1 E.2.1 dX1_fillRow_27 rfl (lv_at hl 3 rfl) ?_
          refine z_imul E dX1_fillRow_28 ?_
          refine lv_iload E.1 E.2.1 dX1_fillRow_29 (lv_at hl 5 rfl) ?_
          refine lv_iload E.1 E.2.1 dX1_fillRow_31 (lv_at hl 5 rfl) ?_
          refine z_imul E dX1_fillRow_33 ?_
          refine lv_iload_n E.1 E.2.1 dX1_fillRow_34 rfl (lv_at hl 2 rfl) ?_
          refine lv_iload_n E.1 E.2.1 dX1_fillRow_35 rfl (lv_at hl 2 rfl) ?_
          refine z_imul E dX1_fillRow_36 ?_
          refine z_iadd E dX1_fillRow_37 ?_
          refine z_imul E dX1_fillRow_38 ?_
          obtain ⟨sq, hsq⟩ : ∃ sq : Int, sq = k * k * ((n : Int) * (n : Int) + dy * dy) := ⟨_, rfl⟩
          have hta := tk_arg (k := k) (dx := (n : Int)) (dy := dy) (by omega) (by omega) (by omega)
          rw [← hsq] at hta
          refine z_top sq (hsq.symm) ?_
          refine lv_istore (lv' := [(6, .int (i32 sq)), (0, .ref (h 0)), (1, .int (i32 (row : Int))), (2, .int (i32 dy)), (3, .int (i32 k)), (4, .int (i32 t0)), (5, .int (i32 (n : Int)))]) E.1 E.2.1 dX1_fillRow_39 hl (by decide) rfl (fun ls hl => ?_)
          have key41 : ∀ (N : Nat) (tt : Int) (H : Heap) (locs : List Loc) (ls : Array Slot), (Int.toNat (2000 - tt)) < N → (0 ≤ tt) → (tt * tt ≤ sq) → zX D B0 (zl (layL cA h T') R) s.heap H locs → lv_has ls 7 [(0, .ref (h 0)), (1, .int (i32 (row : Int))), (2, .int (i32 dy)), (3, .int (i32 k)), (4, .int (i32 tt)), (5, .int (i32 (n : Int))), (6, .int (i32 sq))] → W p l e rX1_fillRow s m args below meth c H locs 0 0 Q (F0 m 41 ls []) := by
            intro N
            induction N with
            | zero => intros; omega
            | succ N ih41 =>
              intro tt H locs ls hN h0 h2 X hl
              refine lv_iload E.1 E.2.1 dX1_fillRow_41 (lv_at hl 4 rfl) ?_
              have ht6 : tt < 600 := sq_lt h0 (by omega) (by omega)
              have ht7 := sq_le (a := tt + 1) (m := 601) (by omega) (by omega)
              refine z_iconst E dX1_fillRow_43 ?_
              refine z_iadd E dX1_fillRow_44 ?_
              refine lv_iload E.1 E.2.1 dX1_fillRow_45 (lv_at hl 4 rfl) ?_
              refine z_iconst E dX1_fillRow_47 ?_
              refine z_iadd E dX1_fillRow_48 ?_
              refine z_imul E dX1_fillRow_49 ?_
              refine lv_iload E.1 E.2.1 dX1_fillRow_50 (lv_at hl 6 rfl) ?_
              refine z_cgt E 61 ⟨by omega, by omega⟩ ⟨by omega, by omega⟩ dX1_fillRow_52 (by decide) (fun h52_5 => ?_) (fun h52_5 => ?_)
              · have eq9 := isq_eq (n := sq) (r := tt) (by omega) h0 h2 (by omega)
                refine lv_aload_n E.1 E.2.1 dX1_fillRow_61 rfl (lv_at hl 0 rfl) ?_
                refine z_get E X (lL_0 R cA h T') rfl iX1 3 (by decide) (by decide +kernel) (v := .ref (h 3)) rfl dX1_fillRow_62 ?_
                refine lv_iload_n E.1 E.2.1 dX1_fillRow_65 rfl (lv_at hl 1 rfl) ?_
                refine z_bipush E dX1_fillRow_66 (by decide +kernel) ?_
                refine z_imul E dX1_fillRow_68 ?_
                refine lv_iload E.1 E.2.1 dX1_fillRow_69 (lv_at hl 5 rfl) ?_
                refine z_iadd E dX1_fillRow_71 ?_
                refine z_top ((51 * row + n : Nat) : Int) (by omega) ?_
                refine lv_iload E.1 E.2.1 dX1_fillRow_72 (lv_at hl 4 rfl) ?_
                refine z_iast E X (lL_3 R cA h T') (51 * row + n) (by omega) (by omega) (by decide) dX1_fillRow_74 (fun H locs X => ?_)
                have X := la_3 X
                refine z_iinc (lv' := [(5, .int (i32 ((n + 1 : Nat) : Int))), (0, .ref (h 0)), (1, .int (i32 (row : Int))), (2, .int (i32 dy)), (3, .int (i32 k)), (4, .int (i32 tt)), (6, .int (i32 sq))]) E dX1_fillRow_75 hl (k := 5) rfl (by decide) rfl (fun ls hl => ?_)
                refine lv_goto (tgt := 19) E.1 E.2.1 dX1_fillRow_78 (by decide) ?_
                exact ih19 (n + 1) tt (zs T' 3 (51 * row + n) tt) _ _ _ (by omega) (by omega) h0 (Int.le_trans h2 (by rw [hsq]; exact sq_step)) (fiI_S hT (by omega) (by rw [eq9, hsq]; rfl)) X (lv_sub hl [1, 2, 3, 4, 5, 0] rfl)
              · refine z_iinc (lv' := [(4, .int (i32 (tt + 1))), (0, .ref (h 0)), (1, .int (i32 (row : Int))), (2, .int (i32 dy)), (3, .int (i32 k)), (5, .int (i32 (n : Int))), (6, .int (i32 sq))]) E dX1_fillRow_55 hl (k := 4) rfl (by decide) rfl (fun ls hl => ?_)
                refine lv_goto (tgt := 41) E.1 E.2.1 dX1_fillRow_58 (by decide) ?_
                exact ih41 (tt + 1) _ _ _ (by omega) (by omega) (by omega) X (lv_sub hl [1, 2, 3, 4, 0, 5, 6] rfl)
          exact key41 ((Int.toNat (2000 - t0)) + 1) t0 _ _ _ (by omega) h0 (by rw [hsq]; exact h2) X (lv_sub hl [1, 2, 3, 4, 5, 6, 0] rfl)
    exact key19 ((51 - 0) + 1) 0 (k * dy) T _ _ _ (by omega) (by omega) (Int.mul_nonneg (by omega) (by omega)) (by rw [sq_start]; exact Int.le_refl _) fiI_0 X (lv_sub hl [2, 3, 4, 5, 1, 0] rfl)
  · exfalso
    omega

abbrev rX1_leastTicks : Room := { frames := 2, cells := 0, slots := 0, locals := 48 }
theorem lt_out {ex x row : Nat} {z : Int} (h1 : ex ≤ 50) : True := trivial
set_option maxHeartbeats 4000000 in
set_option maxRecDepth 100000 in
theorem L_leastTicks (l : Launch) (D : va_G) (cA : Nat → ClassId) (B0 : Nat) (R : zL) (h : Nat → Nat) (T : zS) (u : Int) (hu : 1 ≤ u ∧ u ≤ 8) (hI : LI T u) (ex x row : Nat) (hex : ex ≤ 50) (hx : x ≤ 50) (hrow : row ≤ 31) (kk dd : Int) (hk : 1 ≤ kk ∧ kk ≤ 8) (hd : 0 ≤ dd ∧ dd ≤ 30) (h0 : T 4 row = 0 → kk = T 2 0 ∧ dd = (row : Int) ∧ row ≤ 30) (h1 : T 4 row = 1 → LR T row kk dd) : zM l yX1_leastTicks wsX1_leastTicks rX1_leastTicks [.ref (h 0), .int (i32 (ex : Int)), .int (i32 (x : Int)), .int (i32 (row : Int))] D cA B0 (zW D B0 (zl (layL cA h T) R)) (fun v H => v = some (.int (i32 (minb (fb ex x u (T 0 0) kk dd) 50))) ∧ ∃ T' : zS, LI T' u ∧ T' 4 row = 1 ∧ LR T' row kk dd ∧ (∀ q : Nat, q ≠ 3 → q ≠ 4 → T' q = T q) ∧ zW D B0 (zl (layL cA h T') R) H) := by
  refine z_met (cc := cX1_leastTicks) (maxL := 9) (ret := (some .int)) (by decide) rfl (Nat.le_of_ble_eq_true rfl) ?_
  intro p e s m args below meth c ls Q hQ E hP hB hS hl
  have hl : lv_has ls 9 [(0, .ref (h 0)), (1, .int (i32 (ex : Int))), (2, .int (i32 (x : Int))), (3, .int (i32 (row : Int)))] := hl
  have iX1 : ∀ w ∈ u_ws RX1 TX1 5, w ∈ wsX1_leastTicks := by decide +kernel
  have X : zX D B0 (zl (layL cA h T) R) s.heap s.heap [] := ⟨hP, hS⟩
  have hI9 := hI
  obtain ⟨c0, c1, c2, -, -, -⟩ := hI9
  have hrd := hI.2.2.2.1 row (by omega)
  have join : ∀ (T' : zS), LI T' u ∧ T' 4 row = 1 ∧ LR T' row kk dd ∧ (∀ q : Nat, q ≠ 3 → q ≠ 4 → T' q = T q) → ∀ (H : Heap) (locs : List Loc), zX D B0 (zl (layL cA h T') R) s.heap H locs → W p l e rX1_leastTicks s m args below meth c H locs 0 0 Q (F0 m 52 ls []) := by
    intro T' hJ H locs X
    have e0 : T' 0 0 = T 0 0 := by rw [hJ.2.2.2 0 (by decide) (by decide)]
    refine z_ldc (v := 2147483647) (z := 2147483647) E (by decide +kernel) (by decide +kernel) dX1_leastTicks_52 ?_
    obtain ⟨mn, mx, hmm⟩ : ∃ mn mx : Nat, (mn = ex ∧ mx = x ∧ ex ≤ x) ∨ (mn = x ∧ mx = ex ∧ x ≤ ex) := by
      rcases Nat.le_total ex x with q | q
      · exact ⟨ex, x, Or.inl ⟨rfl, rfl, q⟩⟩
      · exact ⟨x, ex, Or.inr ⟨rfl, rfl, q⟩⟩
    refine z_top (rmin (fun d => fb ex x u (T 0 0) kk dd (mn + d)) 0) (rfl) ?_
    refine lv_istore (lv' := [(4, .int (i32 (rmin (fun d => fb ex x u (T 0 0) kk dd (mn + d)) 0))), (0, .ref (h 0)), (1, .int (i32 (ex : Int))), (2, .int (i32 (x : Int))), (3, .int (i32 (row : Int)))]) E.1 E.2.1 dX1_leastTicks_54 hl (by decide) rfl (fun ls hl => ?_)
    refine lv_iload_n E.1 E.2.1 dX1_leastTicks_56 rfl (lv_at hl 2 rfl) ?_
    refine lv_iload_n E.1 E.2.1 dX1_leastTicks_57 rfl (lv_at hl 3 rfl) ?_
    refine z_mmax E ⟨by omega, by omega⟩ ⟨by omega, by omega⟩ (by decide +kernel) (by decide +kernel) (by decide +kernel) (by decide +kernel) hl.1 (by decide) (Nat.le_of_ble_eq_true rfl) ⟨by decide, by decide⟩ dX1_leastTicks_58 ?_
    refine z_top (mx : Int) (by unfold zmax; split <;> omega) ?_
    refine lv_istore (lv' := [(5, .int (i32 (mx : Int))), (4, .int (i32 (rmin (fun d => fb ex x u (T 0 0) kk dd (mn + d)) 0))), (0, .ref (h 0)), (1, .int (i32 (ex : Int))), (2, .int (i32 (x : Int))), (3, .int (i32 (row : Int)))]) E.1 E.2.1 dX1_leastTicks_61 hl (by decide) rfl (fun ls hl => ?_)
    refine lv_iload_n E.1 E.2.1 dX1_leastTicks_63 rfl (lv_at hl 3 rfl) ?_
    refine lv_iload_n E.1 E.2.1 dX1_leastTicks_64 rfl (lv_at hl 4 rfl) ?_
    refine z_mmin E ⟨by omega, by omega⟩ ⟨by omega, by omega⟩ (by decide +kernel) (by decide +kernel) (by decide +kernel) (by decide +kernel) hl.1 (by decide) (Nat.le_of_ble_eq_true rfl) ⟨by decide, by decide⟩ dX1_leastTicks_65 ?_
    refine z_top ((mn + 0 : Nat) : Int) (by unfold zmin; split <;> omega) ?_
    refine lv_istore (lv' := [(6, .int (i32 ((mn + 0 : Nat) : Int))), (5, .int (i32 (mx : Int))), (4, .int (i32 (rmin (fun d => fb ex x u (T 0 0) kk dd (mn + d)) 0))), (0, .ref (h 0)), (1, .int (i32 (ex : Int))), (2, .int (i32 (x : Int))), (3, .int (i32 (row : Int)))]) E.1 E.2.1 dX1_leastTicks_68 hl (by decide) rfl (fun ls hl => ?_)
    have key70 : ∀ (N : Nat) (n : Nat) (H : Heap) (locs : List Loc) (ls : Array Slot), (mx + 1 - (mn + n)) < N → (mn + n ≤ mx + 1) → zX D B0 (zl (layL cA h T') R) s.heap H locs → lv_has ls 9 [(0, .ref (h 0)), (1, .int (i32 (ex : Int))), (2, .int (i32 (x : Int))), (3, .int (i32 (row : Int))), (4, .int (i32 (rmin (fun d => fb ex x u (T 0 0) kk dd (mn + d)) n))), (5, .int (i32 (mx : Int))), (6, .int (i32 ((mn + n : Nat) : Int)))] → W p l e rX1_leastTicks s m args below meth c H locs 0 0 Q (F0 m 70 ls []) := by
      intro N
      induction N with
      | zero => intros; omega
      | succ N ih70 =>
        intro n H locs ls hN hn X hl
        refine lv_iload E.1 E.2.1 dX1_leastTicks_70 (lv_at hl 6 rfl) ?_
        refine lv_iload E.1 E.2.1 dX1_leastTicks_72 (lv_at hl 5 rfl) ?_
        refine z_cgt E 132 ⟨by omega, by omega⟩ ⟨by omega, by omega⟩ dX1_leastTicks_74 (by decide) (fun h74_1 => ?_) (fun h74_1 => ?_)
        · refine lv_iload E.1 E.2.1 dX1_leastTicks_132 (lv_at hl 4 rfl) ?_
          have hfin := fb_part (u := u) (w := T 0 0) (kk := kk) (dd := dd) (by omega) (by omega) (by omega) (by omega) hex hx hmm
          have hnn : n = (mx - mn) + 1 := by omega
          have hrm := rmin_is (f := fun d => fb ex x u (T 0 0) kk dd (mn + d)) (mx - mn) (fun k hk => by have := fb_rng (ex := ex) (x := x) (b := mn + k) (u := u) (w := T 0 0) (kk := kk) (dd := dd) (by omega) (by omega) (by omega) (by omega) hex hx (by omega); show fb ex x u (T 0 0) kk dd (mn + k) ≤ _; omega)
          exact z_ret E X hQ (⟨by rw [hnn, hrm, hfin], T', hJ.1, hJ.2.1, hJ.2.2.1, hJ.2.2.2, X.1⟩) dX1_leastTicks_134
        · have hbr := fb_rng (ex := ex) (x := x) (b := mn + n) (u := u) (w := T 0 0) (kk := kk) (dd := dd) (by omega) (by omega) (by omega) (by omega) hex hx (by omega)
          have hrr := rmin_rng (f := fun d => fb ex x u (T 0 0) kk dd (mn + d)) (lo := 0) (by decide) (n := n) (fun k hk => (fb_rng (by omega) (by omega) (by omega) (by omega) hex hx (by omega)).1)
          have hw1 := leg_w (b := mn + n) (ex := ex) hJ.1.2.2.2.2.2 (by omega) hex
          have hp1 := leg_p (b := mn + n) (x := x) hJ.2.2.1 (by omega) hx
          rw [e0] at hw1
          have hz1 := zabs_rng (a := (ex : Int) - ((mn + n : Nat) : Int)) (m := 50) (by omega) (by omega)
          have hz2 := zabs_rng (a := ((mn + n : Nat) : Int) - (x : Int)) (m := 50) (by omega) (by omega)
          have ht1 := tk_rng (k := u) (dx := ((mn + n : Nat) : Int) - (ex : Int)) (dy := T 0 0) (by omega) (by omega) (by omega)
          have ht2 := tk_rng (k := kk) (dx := (x : Int) - ((mn + n : Nat) : Int)) (dy := dd) (by omega) (by omega) (by omega)
          refine lv_aload_n E.1 E.2.1 dX1_leastTicks_77 rfl (lv_at hl 0 rfl) ?_
          refine z_get E X (lL_0 R cA h T') rfl iX1 3 (by decide) (by decide +kernel) (v := .ref (h 3)) rfl dX1_leastTicks_78 ?_
          refine z_sipush E dX1_leastTicks_81 (by decide +kernel) ?_
          refine lv_iload_n E.1 E.2.1 dX1_leastTicks_84 rfl (lv_at hl 1 rfl) ?_
          refine lv_iload E.1 E.2.1 dX1_leastTicks_85 (lv_at hl 6 rfl) ?_
          refine z_isub E dX1_leastTicks_87 ?_
          refine z_mabs E ⟨by omega, by omega⟩ (by decide +kernel) (by decide +kernel) (by decide +kernel) (by decide +kernel) hl.1 (by decide) (Nat.le_of_ble_eq_true rfl) ⟨by decide, by decide⟩ dX1_leastTicks_88 ?_
          refine z_iadd E dX1_leastTicks_91 ?_
          refine z_top ((1632 + (zabs ((ex : Int) - ((mn + n : Nat) : Int))).toNat : Nat) : Int) (by omega) ?_
          refine z_iald E X (lL_3 R cA h T') (1632 + (zabs ((ex : Int) - ((mn + n : Nat) : Int))).toNat) (by omega) (by omega) (by decide) dX1_leastTicks_92 ?_
          refine z_top (tk u (((mn + n : Nat) : Int) - (ex : Int)) (T 0 0)) (hw1) ?_
          refine lv_istore (lv' := [(7, .int (i32 (tk u (((mn + n : Nat) : Int) - (ex : Int)) (T 0 0)))), (0, .ref (h 0)), (1, .int (i32 (ex : Int))), (2, .int (i32 (x : Int))), (3, .int (i32 (row : Int))), (4, .int (i32 (rmin (fun d => fb ex x u (T 0 0) kk dd (mn + d)) n))), (5, .int (i32 (mx : Int))), (6, .int (i32 ((mn + n : Nat) : Int)))]) E.1 E.2.1 dX1_leastTicks_93 hl (by decide) rfl (fun ls hl => ?_)
          refine lv_aload_n E.1 E.2.1 dX1_leastTicks_95 rfl (lv_at hl 1 rfl) ?_
          refine z_get E X (lL_0 R cA h T') rfl iX1 3 (by decide) (by decide +kernel) (v := .ref (h 3)) rfl dX1_leastTicks_96 ?_
          refine lv_iload_n E.1 E.2.1 dX1_leastTicks_99 rfl (lv_at hl 4 rfl) ?_
          refine z_bipush E dX1_leastTicks_100 (by decide +kernel) ?_
          refine z_imul E dX1_leastTicks_102 ?_
          refine lv_iload E.1 E.2.1 dX1_leastTicks_103 (lv_at hl 7 rfl) ?_
          refine lv_iload_n E.1 E.2.1 dX1_leastTicks_105 rfl (lv_at hl 3 rfl) ?_
          refine z_isub E dX1_leastTicks_106 ?_
          refine z_mabs E ⟨by omega, by omega⟩ (by decide +kernel) (by decide +kernel) (by decide +kernel) (by decide +kernel) hl.1 (by decide) (Nat.le_of_ble_eq_true rfl) ⟨by decide, by decide⟩ dX1_leastTicks_107 ?_
          refine z_iadd E dX1_leastTicks_110 ?_
          refine z_top ((51 * row + (zabs (((mn + n : Nat) : Int) - (x : Int))).toNat : Nat) : Int) (by omega) ?_
          refine z_iald E X (lL_3 R cA h T') (51 * row + (zabs (((mn + n : Nat) : Int) - (x : Int))).toNat) (by omega) (by omega) (by decide) dX1_leastTicks_111 ?_
          refine z_top (tk kk ((x : Int) - ((mn + n : Nat) : Int)) dd) (hp1) ?_
          refine lv_istore (lv' := [(8, .int (i32 (tk kk ((x : Int) - ((mn + n : Nat) : Int)) dd))), (7, .int (i32 (tk u (((mn + n : Nat) : Int) - (ex : Int)) (T 0 0)))), (0, .ref (h 0)), (1, .int (i32 (ex : Int))), (2, .int (i32 (x : Int))), (3, .int (i32 (row : Int))), (4, .int (i32 (rmin (fun d => fb ex x u (T 0 0) kk dd (mn + d)) n))), (5, .int (i32 (mx : Int))), (6, .int (i32 ((mn + n : Nat) : Int)))]) E.1 E.2.1 dX1_leastTicks_112 hl (by decide) rfl (fun ls hl => ?_)
          refine lv_iload E.1 E.2.1 dX1_leastTicks_114 (lv_at hl 6 rfl) ?_
          refine lv_iload E.1 E.2.1 dX1_leastTicks_116 (lv_at hl 1 rfl) ?_
          refine lv_iload E.1 E.2.1 dX1_leastTicks_118 (lv_at hl 0 rfl) ?_
          refine z_iadd E dX1_leastTicks_120 ?_
          refine z_mmin E ⟨by omega, by omega⟩ ⟨by omega, by omega⟩ (by decide +kernel) (by decide +kernel) (by decide +kernel) (by decide +kernel) hl.1 (by decide) (Nat.le_of_ble_eq_true rfl) ⟨by decide, by decide⟩ dX1_leastTicks_121 ?_
          refine z_top (rmin (fun d => fb ex x u (T 0 0) kk dd (mn + d)) (n + 1)) (by rw [rmin_S]; rfl) ?_
          refine lv_istore (lv' := [(4, .int (i32 (rmin (fun d => fb ex x u (T 0 0) kk dd (mn + d)) (n + 1)))), (8, .int (i32 (tk kk ((x : Int) - ((mn + n : Nat) : Int)) dd))), (7, .int (i32 (tk u (((mn + n : Nat) : Int) - (ex : Int)) (T 0 0)))), (0, .ref (h 0)), (1, .int (i32 (ex : Int))), (2, .int (i32 (x : Int))), (3, .int (i32 (row : Int))), (5, .int (i32 (mx : Int))), (6, .int (i32 ((mn + n : Nat) : Int)))]) E.1 E.2.1 dX1_leastTicks_124 hl (by decide) rfl (fun ls hl => ?_)
          refine z_iinc (lv' := [(6, .int (i32 ((mn + n + 1 : Nat) : Int))), (4, .int (i32 (rmin (fun d => fb ex x u (T 0 0) kk dd (mn + d)) (n + 1)))), (8, .int (i32 (tk kk ((x : Int) - ((mn + n : Nat) : Int)) dd))), (7, .int (i32 (tk u (((mn + n : Nat) : Int) - (ex : Int)) (T 0 0)))), (0, .ref (h 0)), (1, .int (i32 (ex : Int))), (2, .int (i32 (x : Int))), (3, .int (i32 (row : Int))), (5, .int (i32 (mx : Int)))]) E dX1_leastTicks_126 hl (k := 8) rfl (by decide) rfl (fun ls hl => ?_)
          refine lv_goto (tgt := 70) E.1 E.2.1 dX1_leastTicks_129 (by decide) ?_
          exact ih70 (n + 1) _ _ _ (by omega) (by omega) X (lv_sub hl [4, 5, 6, 7, 1, 8, 0] rfl)
    exact key70 ((mx + 1 - (mn + 0)) + 1) 0 _ _ _ (by omega) (by omega) X (lv_sub hl [3, 4, 5, 6, 2, 1, 0] rfl)
  refine lv_iload_n E.1 E.2.1 dX1_leastTicks_0 rfl (lv_at hl 1 rfl) ?_
  refine z_iconst E dX1_leastTicks_1 ?_
  refine z_bipush E dX1_leastTicks_2 (by decide +kernel) ?_
  refine z_callN (As := [.int (i32 (ex : Int)), .int (i32 0), .int (i32 50)]) (rest := []) (n := 3) E X (c_outside l D cA B0 _ (ex : Int) 0 50 ⟨by omega, by omega⟩ ⟨by omega, by omega⟩ ⟨by omega, by omega⟩) gX1_leastTicks_X5_outside_n37 rfl (by decide +kernel) (by decide +kernel) (by decide +kernel) ⟨by decide, by decide⟩ rfl hl.1 rfl (Nat.le_of_ble_eq_true rfl) dX1_leastTicks_4 ⟨by decide, by decide⟩ rfl 0 0 ⟨rfl, rfl⟩ (fun v H locs hv hS_2 => ?_)
  obtain ⟨hH, z_3, rfl, ez_3⟩ := hv
  subst hH
  replace X := X.same hS_2
  refine z_fne E 30 ⟨by omega, by omega⟩ dX1_leastTicks_7 (by decide) (fun h7_4 => ?_) (fun h7_4 => ?_)
  · exfalso
    omega
  · refine lv_iload_n E.1 E.2.1 dX1_leastTicks_10 rfl (lv_at hl 2 rfl) ?_
    refine z_iconst E dX1_leastTicks_11 ?_
    refine z_bipush E dX1_leastTicks_12 (by decide +kernel) ?_
    refine z_callN (As := [.int (i32 (x : Int)), .int (i32 0), .int (i32 50)]) (rest := []) (n := 3) E X (c_outside l D cA B0 _ (x : Int) 0 50 ⟨by omega, by omega⟩ ⟨by omega, by omega⟩ ⟨by omega, by omega⟩) gX1_leastTicks_X5_outside_n37 rfl (by decide +kernel) (by decide +kernel) (by decide +kernel) ⟨by decide, by decide⟩ rfl hl.1 rfl (Nat.le_of_ble_eq_true rfl) dX1_leastTicks_14 ⟨by decide, by decide⟩ rfl 0 0 ⟨rfl, rfl⟩ (fun v H locs hv hS_5 => ?_)
    obtain ⟨hH, z_6, rfl, ez_6⟩ := hv
    subst hH
    replace X := X.same hS_5
    refine z_fne E 30 ⟨by omega, by omega⟩ dX1_leastTicks_17 (by decide) (fun h17_7 => ?_) (fun h17_7 => ?_)
    · exfalso
      omega
    · refine lv_iload_n E.1 E.2.1 dX1_leastTicks_20 rfl (lv_at hl 3 rfl) ?_
      refine z_iconst E dX1_leastTicks_21 ?_
      refine z_bipush E dX1_leastTicks_22 (by decide +kernel) ?_
      refine z_callN (As := [.int (i32 (row : Int)), .int (i32 0), .int (i32 31)]) (rest := []) (n := 3) E X (c_outside l D cA B0 _ (row : Int) 0 31 ⟨by omega, by omega⟩ ⟨by omega, by omega⟩ ⟨by omega, by omega⟩) gX1_leastTicks_X5_outside_n37 rfl (by decide +kernel) (by decide +kernel) (by decide +kernel) ⟨by decide, by decide⟩ rfl hl.1 rfl (Nat.le_of_ble_eq_true rfl) dX1_leastTicks_24 ⟨by decide, by decide⟩ rfl 0 0 ⟨rfl, rfl⟩ (fun v H locs hv hS_8 => ?_)
      obtain ⟨hH, z_9, rfl, ez_9⟩ := hv
      subst hH
      replace X := X.same hS_8
      refine z_feq E 33 ⟨by omega, by omega⟩ dX1_leastTicks_27 (by decide) (fun h27_10 => ?_) (fun h27_10 => ?_)
      · refine lv_aload_n E.1 E.2.1 dX1_leastTicks_33 rfl (lv_at hl 0 rfl) ?_
        refine z_get E X (lL_0 R cA h T) rfl iX1 4 (by decide) (by decide +kernel) (v := .ref (h 4)) rfl dX1_leastTicks_34 ?_
        refine lv_iload_n E.1 E.2.1 dX1_leastTicks_37 rfl (lv_at hl 3 rfl) ?_
        refine z_zald E X (lL_4 R cA h T) row (by omega) (by omega) (by decide) dX1_leastTicks_38 ?_
        refine z_fne E 52 ⟨by omega, by omega⟩ dX1_leastTicks_39 (by decide) (fun h39_11 => ?_) (fun h39_11 => ?_)
        · have hJ : LI T u ∧ T 4 row = 1 ∧ LR T row kk dd ∧ (∀ q : Nat, q ≠ 3 → q ≠ 4 → T q = T q) := ⟨hI, by rcases hI.2.2.2.1 row (by omega) with q | q <;> omega, h1 (by rcases hI.2.2.2.1 row (by omega) with q | q <;> omega), fun _ _ _ => rfl⟩
          exact join T hJ _ _ X
        · refine lv_aload_n E.1 E.2.1 dX1_leastTicks_42 rfl (lv_at hl 0 rfl) ?_
          refine lv_iload_n E.1 E.2.1 dX1_leastTicks_43 rfl (lv_at hl 3 rfl) ?_
          refine lv_iload_n E.1 E.2.1 dX1_leastTicks_44 rfl (lv_at hl 3 rfl) ?_
          refine lv_aload_n E.1 E.2.1 dX1_leastTicks_45 rfl (lv_at hl 0 rfl) ?_
          refine z_get E X (lL_0 R cA h T) rfl iX1 2 (by decide) (by decide +kernel) (v := .int (i32 (T 2 0))) rfl dX1_leastTicks_46 ?_
          refine z_callV (As := [.int (i32 (row : Int)), .int (i32 (row : Int)), .int (i32 (T 2 0))]) (rest := []) (n := 3) E X (lL_0 R cA h T) rfl (L_fillRow l D cA B0 R h T row (row : Int) (T 2 0) (by omega) (by omega) (by omega)) gX1_leastTicks_X1_fillRow rfl (by decide +kernel) ⟨by decide, by decide⟩ rfl hl.1 rfl (Nat.le_of_ble_eq_true rfl) dX1_leastTicks_49 ⟨by decide, by decide⟩ X.1 0 0 ⟨rfl, rfl⟩ (fun v H locs hv hS_12 => ?_)
          obtain ⟨rfl, T_13, hT_13, hw⟩ := hv
          replace X : zX D B0 (zl (layL cA h T_13) R) s.heap H locs := ⟨hw, hS_12⟩
          have hz0 := h0 (by omega)
          have hF := hT_13
          rw [← hz0.1, ← hz0.2.1] at hF
          have hL := LI_fill hI hF (Or.inr ⟨hz0.2.2, hz0.1, hz0.2.1⟩)
          have hJ : LI T_13 u ∧ T_13 4 row = 1 ∧ LR T_13 row kk dd ∧ (∀ q : Nat, q ≠ 3 → q ≠ 4 → T_13 q = T q) := ⟨hL.1, hL.2.1, hL.2.2, hF.1⟩
          exact join T_13 hJ _ _ X
      · exfalso
        omega

abbrev rX1_leastBend : Room := { frames := 3, cells := 0, slots := 0, locals := 76 }
set_option maxHeartbeats 4000000 in
set_option maxRecDepth 100000 in
theorem L_leastBend (l : Launch) (D : va_G) (cA : Nat → ClassId) (B0 : Nat) (R : zL) (h : Nat → Nat) (T : zS) (u : Int) (hu : 1 ≤ u ∧ u ≤ 8) (hI : LI T u) (ex x row : Nat) (hex : ex ≤ 50) (hx : x ≤ 50) (hrow : row ≤ 31) (kk dd : Int) (hk : 1 ≤ kk ∧ kk ≤ 8) (hd : 0 ≤ dd ∧ dd ≤ 30) (h0 : T 4 row = 0 → kk = T 2 0 ∧ dd = (row : Int) ∧ row ≤ 30) (h1 : T 4 row = 1 → LR T row kk dd) : zM l yX1_leastBend wsX1_leastBend rX1_leastBend [.ref (h 0), .int (i32 (ex : Int)), .int (i32 (x : Int)), .int (i32 (row : Int))] D cA B0 (zW D B0 (zl (layL cA h T) R)) (fun v H => v = some (.int (i32 (argb (fb ex x u (T 0 0) kk dd) 50))) ∧ ∃ T' : zS, LI T' u ∧ T' 4 row = 1 ∧ LR T' row kk dd ∧ (∀ q : Nat, q ≠ 3 → q ≠ 4 → T' q = T q) ∧ zW D B0 (zl (layL cA h T') R) H) := by
  refine z_met (cc := cX1_leastBend) (maxL := 8) (ret := (some .int)) (by decide) rfl (Nat.le_of_ble_eq_true rfl) ?_
  intro p e s m args below meth c ls Q hQ E hP hB hS hl
  have hl : lv_has ls 8 [(0, .ref (h 0)), (1, .int (i32 (ex : Int))), (2, .int (i32 (x : Int))), (3, .int (i32 (row : Int)))] := hl
  have iX1 : ∀ w ∈ u_ws RX1 TX1 5, w ∈ wsX1_leastBend := by decide +kernel
  have X : zX D B0 (zl (layL cA h T) R) s.heap s.heap [] := ⟨hP, hS⟩
  have hI9 := hI
  obtain ⟨c0, c1, c2, -, -, -⟩ := hI9
  refine lv_aload_n E.1 E.2.1 dX1_leastBend_0 rfl (lv_at hl 0 rfl) ?_
  refine lv_iload_n E.1 E.2.1 dX1_leastBend_1 rfl (lv_at hl 1 rfl) ?_
  refine lv_iload_n E.1 E.2.1 dX1_leastBend_2 rfl (lv_at hl 2 rfl) ?_
  refine lv_iload_n E.1 E.2.1 dX1_leastBend_3 rfl (lv_at hl 3 rfl) ?_
  refine z_callV (As := [.int (i32 (ex : Int)), .int (i32 (x : Int)), .int (i32 (row : Int))]) (rest := []) (n := 3) E X (lL_0 R cA h T) rfl (L_leastTicks l D cA B0 R h T u (by omega) hI ex x row (by omega) (by omega) (by omega) kk dd (by omega) (by omega) h0 h1) gX1_leastBend_X1_leastTicks rfl (by decide +kernel) ⟨by decide, by decide⟩ rfl hl.1 rfl (Nat.le_of_ble_eq_true rfl) dX1_leastBend_4 ⟨by decide, by decide⟩ X.1 0 0 ⟨rfl, rfl⟩ (fun v H locs hv hS_1 => ?_)
  obtain ⟨rfl, T_2, hIT_2, hrT_2, hLT_2, hsT_2, hw⟩ := hv
  replace X : zX D B0 (zl (layL cA h T_2) R) s.heap H locs := ⟨hw, hS_1⟩
  have hmr : 0 ≤ minb (fb ex x u (T 0 0) kk dd) 50 ∧ minb (fb ex x u (T 0 0) kk dd) 50 ≤ 2046 := ⟨minb_ge (fun k hk => (fb_rng (by omega) (by omega) (by omega) (by omega) hex hx (by omega)).1), Int.le_trans (minb_le (k := 0) (Nat.zero_le _)) (fb_rng (by omega) (by omega) (by omega) (by omega) hex hx (by omega)).2⟩
  have e0 : T_2 0 0 = T 0 0 := by rw [hsT_2 0 (by decide) (by decide)]
  refine lv_istore (lv' := [(4, .int (i32 (minb (fb ex x u (T 0 0) kk dd) 50))), (0, .ref (h 0)), (1, .int (i32 (ex : Int))), (2, .int (i32 (x : Int))), (3, .int (i32 (row : Int)))]) E.1 E.2.1 dX1_leastBend_7 hl (by decide) rfl (fun ls hl => ?_)
  refine lv_iload E.1 E.2.1 dX1_leastBend_9 (lv_at hl 0 rfl) ?_
  refine z_fge E 17 ⟨by omega, by omega⟩ dX1_leastBend_11 (by decide) (fun h11_3 => ?_) (fun h11_3 => ?_)
  · refine z_iconst E dX1_leastBend_17 ?_
    refine z_top (0 : Int) (rfl) ?_
    refine lv_istore (lv' := [(5, .int (i32 (0 : Int))), (4, .int (i32 (minb (fb ex x u (T 0 0) kk dd) 50))), (0, .ref (h 0)), (1, .int (i32 (ex : Int))), (2, .int (i32 (x : Int))), (3, .int (i32 (row : Int)))]) E.1 E.2.1 dX1_leastBend_18 hl (by decide) rfl (fun ls hl => ?_)
    have key20 : ∀ (N : Nat) (b : Nat) (H : Heap) (locs : List Loc) (ls : Array Slot), (51 - b) < N → (b ≤ 51) → (∀ j : Nat, j < b → ¬ fb ex x u (T 0 0) kk dd j = minb (fb ex x u (T 0 0) kk dd) 50) → zX D B0 (zl (layL cA h T_2) R) s.heap H locs → lv_has ls 8 [(0, .ref (h 0)), (1, .int (i32 (ex : Int))), (2, .int (i32 (x : Int))), (3, .int (i32 (row : Int))), (4, .int (i32 (minb (fb ex x u (T 0 0) kk dd) 50))), (5, .int (i32 (b : Int)))] → W p l e rX1_leastBend s m args below meth c H locs 0 0 Q (F0 m 20 ls []) := by
      intro N
      induction N with
      | zero => intros; omega
      | succ N ih20 =>
        intro b H locs ls hN hb hno X hl
        refine lv_iload E.1 E.2.1 dX1_leastBend_20 (lv_at hl 5 rfl) ?_
        refine z_bipush E dX1_leastBend_22 (by decide +kernel) ?_
        refine z_cgt E 83 ⟨by omega, by omega⟩ ⟨by omega, by omega⟩ dX1_leastBend_24 (by decide) (fun h24_4 => ?_) (fun h24_4 => ?_)
        · obtain ⟨k9, hk1, hk2, -⟩ := minb_is (f := fb ex x u (T 0 0) kk dd) 50
          exact absurd hk2 (hno k9 (by omega))
        · have hbr := fb_rng (ex := ex) (x := x) (b := b) (u := u) (w := T 0 0) (kk := kk) (dd := dd) (by omega) (by omega) (by omega) (by omega) hex hx (by omega)
          have hw1 := leg_w (b := b) (ex := ex) hIT_2.2.2.2.2.2 (by omega) hex
          have hp1 := leg_p (b := b) (x := x) hLT_2 (by omega) hx
          rw [e0] at hw1
          have hz1 := zabs_rng (a := (ex : Int) - (b : Int)) (m := 50) (by omega) (by omega)
          have hz2 := zabs_rng (a := (b : Int) - (x : Int)) (m := 50) (by omega) (by omega)
          have ht1 := tk_rng (k := u) (dx := (b : Int) - (ex : Int)) (dy := T 0 0) (by omega) (by omega) (by omega)
          have ht2 := tk_rng (k := kk) (dx := (x : Int) - (b : Int)) (dy := dd) (by omega) (by omega) (by omega)
          refine lv_aload_n E.1 E.2.1 dX1_leastBend_27 rfl (lv_at hl 0 rfl) ?_
          refine z_get E X (lL_0 R cA h T_2) rfl iX1 3 (by decide) (by decide +kernel) (v := .ref (h 3)) rfl dX1_leastBend_28 ?_
          refine z_sipush E dX1_leastBend_31 (by decide +kernel) ?_
          refine lv_iload_n E.1 E.2.1 dX1_leastBend_34 rfl (lv_at hl 1 rfl) ?_
          refine lv_iload E.1 E.2.1 dX1_leastBend_35 (lv_at hl 5 rfl) ?_
          refine z_isub E dX1_leastBend_37 ?_
          refine z_mabs E ⟨by omega, by omega⟩ (by decide +kernel) (by decide +kernel) (by decide +kernel) (by decide +kernel) hl.1 (by decide) (Nat.le_of_ble_eq_true rfl) ⟨by decide, by decide⟩ dX1_leastBend_38 ?_
          refine z_iadd E dX1_leastBend_41 ?_
          refine z_top ((1632 + (zabs ((ex : Int) - (b : Int))).toNat : Nat) : Int) (by omega) ?_
          refine z_iald E X (lL_3 R cA h T_2) (1632 + (zabs ((ex : Int) - (b : Int))).toNat) (by omega) (by omega) (by decide) dX1_leastBend_42 ?_
          refine z_top (tk u ((b : Int) - (ex : Int)) (T 0 0)) (hw1) ?_
          refine lv_istore (lv' := [(6, .int (i32 (tk u ((b : Int) - (ex : Int)) (T 0 0)))), (0, .ref (h 0)), (1, .int (i32 (ex : Int))), (2, .int (i32 (x : Int))), (3, .int (i32 (row : Int))), (4, .int (i32 (minb (fb ex x u (T 0 0) kk dd) 50))), (5, .int (i32 (b : Int)))]) E.1 E.2.1 dX1_leastBend_43 hl (by decide) rfl (fun ls hl => ?_)
          refine lv_aload_n E.1 E.2.1 dX1_leastBend_45 rfl (lv_at hl 1 rfl) ?_
          refine z_get E X (lL_0 R cA h T_2) rfl iX1 3 (by decide) (by decide +kernel) (v := .ref (h 3)) rfl dX1_leastBend_46 ?_
          refine lv_iload_n E.1 E.2.1 dX1_leastBend_49 rfl (lv_at hl 4 rfl) ?_
          refine z_bipush E dX1_leastBend_50 (by decide +kernel) ?_
          refine z_imul E dX1_leastBend_52 ?_
          refine lv_iload E.1 E.2.1 dX1_leastBend_53 (lv_at hl 6 rfl) ?_
          refine lv_iload_n E.1 E.2.1 dX1_leastBend_55 rfl (lv_at hl 3 rfl) ?_
          refine z_isub E dX1_leastBend_56 ?_
          refine z_mabs E ⟨by omega, by omega⟩ (by decide +kernel) (by decide +kernel) (by decide +kernel) (by decide +kernel) hl.1 (by decide) (Nat.le_of_ble_eq_true rfl) ⟨by decide, by decide⟩ dX1_leastBend_57 ?_
          refine z_iadd E dX1_leastBend_60 ?_
          refine z_top ((51 * row + (zabs ((b : Int) - (x : Int))).toNat : Nat) : Int) (by omega) ?_
          refine z_iald E X (lL_3 R cA h T_2) (51 * row + (zabs ((b : Int) - (x : Int))).toNat) (by omega) (by omega) (by decide) dX1_leastBend_61 ?_
          refine z_top (tk kk ((x : Int) - (b : Int)) dd) (hp1) ?_
          refine lv_istore (lv' := [(7, .int (i32 (tk kk ((x : Int) - (b : Int)) dd))), (6, .int (i32 (tk u ((b : Int) - (ex : Int)) (T 0 0)))), (0, .ref (h 0)), (1, .int (i32 (ex : Int))), (2, .int (i32 (x : Int))), (3, .int (i32 (row : Int))), (4, .int (i32 (minb (fb ex x u (T 0 0) kk dd) 50))), (5, .int (i32 (b : Int)))]) E.1 E.2.1 dX1_leastBend_62 hl (by decide) rfl (fun ls hl => ?_)
          refine lv_iload E.1 E.2.1 dX1_leastBend_64 (lv_at hl 1 rfl) ?_
          refine lv_iload E.1 E.2.1 dX1_leastBend_66 (lv_at hl 0 rfl) ?_
          refine z_iadd E dX1_leastBend_68 ?_
          refine z_top (fb ex x u (T 0 0) kk dd b) (rfl) ?_
          refine lv_iload E.1 E.2.1 dX1_leastBend_69 (lv_at hl 6 rfl) ?_
          refine z_cne E 77 ⟨by omega, by omega⟩ ⟨by omega, by omega⟩ dX1_leastBend_71 (by decide) (fun h71_5 => ?_) (fun h71_5 => ?_)
          · have hnb := h71_5
            refine z_iinc (lv' := [(5, .int (i32 ((b + 1 : Nat) : Int))), (7, .int (i32 (tk kk ((x : Int) - (b : Int)) dd))), (6, .int (i32 (tk u ((b : Int) - (ex : Int)) (T 0 0)))), (0, .ref (h 0)), (1, .int (i32 (ex : Int))), (2, .int (i32 (x : Int))), (3, .int (i32 (row : Int))), (4, .int (i32 (minb (fb ex x u (T 0 0) kk dd) 50)))]) E dX1_leastBend_77 hl (k := 7) rfl (by decide) rfl (fun ls hl => ?_)
            refine lv_goto (tgt := 20) E.1 E.2.1 dX1_leastBend_80 (by decide) ?_
            exact ih20 (b + 1) _ _ _ (by omega) (by omega) (fun j hj => by rcases Nat.lt_or_ge j b with q | q; exact hno j q; rw [show j = b by omega]; exact hnb) X (lv_sub hl [3, 4, 5, 6, 7, 0] rfl)
          · have h71 := h71_5
            refine lv_iload E.1 E.2.1 dX1_leastBend_74 (lv_at hl 7 rfl) ?_
            have har := argb_first (f := fb ex x u (T 0 0) kk dd) (N := 50) (b := b) (by omega) h71 hno
            exact z_ret E X hQ (⟨by rw [har], T_2, hIT_2, hrT_2, hLT_2, hsT_2, X.1⟩) dX1_leastBend_76
    exact key20 ((51 - 0) + 1) 0 _ _ _ (by omega) (by omega) (fun j hj => absurd hj (Nat.not_lt_zero j)) X (lv_sub hl [2, 3, 4, 5, 1, 0] rfl)
  · exfalso
    omega

abbrev rX1_wallTicks : Room := { frames := 3, cells := 0, slots := 0, locals := 76 }
def wlf (e1 e2 : Nat) (u w kk dd : Int) (x : Nat) : Int := minb (fb e1 x u w kk dd) 50 + minb (fb e2 x u w kk dd) 50
theorem mfb_rng {ex x : Nat} {u w kk dd : Int} (hu : 0 ≤ u ∧ u ≤ 8) (hw : 0 ≤ w ∧ w ≤ 20) (hk : 0 ≤ kk ∧ kk ≤ 8) (hd : 0 ≤ dd ∧ dd ≤ 30) (he : ex ≤ 50) (hx : x ≤ 50) : 0 ≤ minb (fb ex x u w kk dd) 50 ∧ minb (fb ex x u w kk dd) 50 ≤ 2046 := ⟨minb_ge (fun _ hb => (fb_rng hu hw hk hd he hx hb).1), Int.le_trans (minb_le (k := 0) (Nat.zero_le _)) (fb_rng hu hw hk hd he hx (Nat.zero_le _)).2⟩
set_option maxHeartbeats 4000000 in
set_option maxRecDepth 100000 in
theorem L_wallTicks (l : Launch) (D : va_G) (cA : Nat → ClassId) (B0 : Nat) (R : zL) (h : Nat → Nat) (T : zS) (u : Int) (hu : 1 ≤ u ∧ u ≤ 8) (hI : LI T u) (e1 e2 : Nat) (v1 : Int) (he1 : e1 ≤ 50) (he2 : e2 ≤ 50) (hv1 : 1 ≤ v1 ∧ v1 ≤ 8) : zM l yX1_wallTicks wsX1_wallTicks rX1_wallTicks [.ref (h 0), .int (i32 (e1 : Int)), .int (i32 (e2 : Int)), .int (i32 v1)] D cA B0 (zW D B0 (zl (layL cA h T) R)) (fun v H => v = some (.int (i32 (minb (wlf e1 e2 u (T 0 0) v1 (T 1 0)) 50))) ∧ ∃ T' : zS, LI T' u ∧ (∀ q : Nat, q ≠ 3 → q ≠ 4 → T' q = T q) ∧ zW D B0 (zl (layL cA h T') R) H) := by
  refine z_met (cc := cX1_wallTicks) (maxL := 6) (ret := (some .int)) (by decide) rfl (Nat.le_of_ble_eq_true rfl) ?_
  intro p e s m args below meth c ls Q hQ E hP hB hS hl
  have hl : lv_has ls 6 [(0, .ref (h 0)), (1, .int (i32 (e1 : Int))), (2, .int (i32 (e2 : Int))), (3, .int (i32 v1))] := hl
  have iX1 : ∀ w ∈ u_ws RX1 TX1 5, w ∈ wsX1_wallTicks := by decide +kernel
  have X : zX D B0 (zl (layL cA h T) R) s.heap s.heap [] := ⟨hP, hS⟩
  have hI9 := hI
  obtain ⟨c0, c1, c2, -, -, -⟩ := hI9
  refine lv_aload_n E.1 E.2.1 dX1_wallTicks_0 rfl (lv_at hl 0 rfl) ?_
  refine z_bipush E dX1_wallTicks_1 (by decide +kernel) ?_
  refine z_top (31 : Int) (rfl) ?_
  refine lv_aload_n E.1 E.2.1 dX1_wallTicks_3 rfl (lv_at hl 0 rfl) ?_
  refine z_get E X (lL_0 R cA h T) rfl iX1 1 (by decide) (by decide +kernel) (v := .int (i32 (T 1 0))) rfl dX1_wallTicks_4 ?_
  refine lv_iload_n E.1 E.2.1 dX1_wallTicks_7 rfl (lv_at hl 3 rfl) ?_
  refine z_callV (As := [.int (i32 (31 : Int)), .int (i32 (T 1 0)), .int (i32 v1)]) (rest := []) (n := 3) E X (lL_0 R cA h T) rfl (L_fillRow l D cA B0 R h T 31 (T 1 0) v1 (by omega) (by omega) (by omega)) gX1_wallTicks_X1_fillRow rfl (by decide +kernel) ⟨by decide, by decide⟩ rfl hl.1 rfl (Nat.le_of_ble_eq_true rfl) dX1_wallTicks_8 ⟨by decide, by decide⟩ X.1 0 0 ⟨rfl, rfl⟩ (fun v H locs hv hS_1 => ?_)
  obtain ⟨rfl, T_2, hT_2, hw⟩ := hv
  replace X : zX D B0 (zl (layL cA h T_2) R) s.heap H locs := ⟨hw, hS_1⟩
  refine z_ldc (v := 2147483647) (z := 2147483647) E (by decide +kernel) (by decide +kernel) dX1_wallTicks_11 ?_
  refine z_top (rmin (wlf e1 e2 u (T 0 0) v1 (T 1 0)) 0) (rfl) ?_
  refine lv_istore (lv' := [(4, .int (i32 (rmin (wlf e1 e2 u (T 0 0) v1 (T 1 0)) 0))), (0, .ref (h 0)), (1, .int (i32 (e1 : Int))), (2, .int (i32 (e2 : Int))), (3, .int (i32 v1))]) E.1 E.2.1 dX1_wallTicks_13 hl (by decide) rfl (fun ls hl => ?_)
  refine z_iconst E dX1_wallTicks_15 ?_
  refine z_top (0 : Int) (rfl) ?_
  refine lv_istore (lv' := [(5, .int (i32 (0 : Int))), (4, .int (i32 (rmin (wlf e1 e2 u (T 0 0) v1 (T 1 0)) 0))), (0, .ref (h 0)), (1, .int (i32 (e1 : Int))), (2, .int (i32 (e2 : Int))), (3, .int (i32 v1))]) E.1 E.2.1 dX1_wallTicks_16 hl (by decide) rfl (fun ls hl => ?_)
  have hFL := LI_fill hI hT_2 (Or.inl rfl)
  have key18 : ∀ (N : Nat) (n : Nat) (T' : zS) (H : Heap) (locs : List Loc) (ls : Array Slot), (51 - n) < N → (n ≤ 51) → (LI T' u ∧ T' 4 31 = 1 ∧ LR T' 31 v1 (T 1 0) ∧ (∀ q : Nat, q ≠ 3 → q ≠ 4 → T' q = T q)) → zX D B0 (zl (layL cA h T') R) s.heap H locs → lv_has ls 6 [(0, .ref (h 0)), (1, .int (i32 (e1 : Int))), (2, .int (i32 (e2 : Int))), (3, .int (i32 v1)), (4, .int (i32 (rmin (wlf e1 e2 u (T 0 0) v1 (T 1 0)) n))), (5, .int (i32 (n : Int)))] → W p l e rX1_wallTicks s m args below meth c H locs 0 0 Q (F0 m 18 ls []) := by
    intro N
    induction N with
    | zero => intros; omega
    | succ N ih18 =>
      intro n T' H locs ls hN hn hIJ X hl
      refine lv_iload E.1 E.2.1 dX1_wallTicks_18 (lv_at hl 5 rfl) ?_
      refine z_bipush E dX1_wallTicks_20 (by decide +kernel) ?_
      refine z_cgt E 57 ⟨by omega, by omega⟩ ⟨by omega, by omega⟩ dX1_wallTicks_22 (by decide) (fun h22_3 => ?_) (fun h22_3 => ?_)
      · refine lv_iload E.1 E.2.1 dX1_wallTicks_57 (lv_at hl 4 rfl) ?_
        have hrm := rmin_is (f := wlf e1 e2 u (T 0 0) v1 (T 1 0)) 50 (fun k hk => by have a1 := mfb_rng (ex := e1) (x := k) (u := u) (w := T 0 0) (kk := v1) (dd := T 1 0) (by omega) (by omega) (by omega) (by omega) he1 (by omega); have a2 := mfb_rng (ex := e2) (x := k) (u := u) (w := T 0 0) (kk := v1) (dd := T 1 0) (by omega) (by omega) (by omega) (by omega) he2 (by omega); unfold wlf; omega)
        exact z_ret E X hQ (⟨by rw [show n = 50 + 1 by omega, hrm], T', hIJ.1, hIJ.2.2.2, X.1⟩) dX1_wallTicks_59
      · have hr31 := hIJ.2.1
        refine lv_iload E.1 E.2.1 dX1_wallTicks_25 (lv_at hl 4 rfl) ?_
        refine lv_aload_n E.1 E.2.1 dX1_wallTicks_27 rfl (lv_at hl 0 rfl) ?_
        refine lv_iload_n E.1 E.2.1 dX1_wallTicks_28 rfl (lv_at hl 1 rfl) ?_
        refine lv_iload E.1 E.2.1 dX1_wallTicks_29 (lv_at hl 5 rfl) ?_
        refine z_bipush E dX1_wallTicks_31 (by decide +kernel) ?_
        refine z_top (31 : Int) (rfl) ?_
        refine z_callV (As := [.int (i32 (e1 : Int)), .int (i32 (n : Int)), .int (i32 (31 : Int))]) (rest := [.int (i32 (rmin (wlf e1 e2 u (T 0 0) v1 (T 1 0)) n))]) (n := 3) E X (lL_0 R cA h T') rfl (L_leastTicks l D cA B0 R h T' u (by omega) hIJ.1 e1 n 31 (by omega) (by omega) (by omega) v1 (T 1 0) (by omega) (by omega) (fun hz => by omega) (fun _ => hIJ.2.2.1)) gX1_wallTicks_X1_leastTicks rfl (by decide +kernel) ⟨by decide, by decide⟩ rfl hl.1 rfl (Nat.le_of_ble_eq_true rfl) dX1_wallTicks_33 ⟨by decide, by decide⟩ X.1 0 0 ⟨rfl, rfl⟩ (fun v H locs hv hS_4 => ?_)
        obtain ⟨rfl, T_5, hIT_5, hrT_5, hLT_5, hsT_5, hw⟩ := hv
        replace X : zX D B0 (zl (layL cA h T_5) R) s.heap H locs := ⟨hw, hS_4⟩
        have e0 : T' 0 0 = T 0 0 := by rw [hIJ.2.2.2 0 (by decide) (by decide)]
        refine z_top (minb (fb e1 n u (T 0 0) v1 (T 1 0)) 50) (by rw [e0]) ?_
        have hm1 := mfb_rng (ex := e1) (x := n) (u := u) (w := T 0 0) (kk := v1) (dd := T 1 0) (by omega) (by omega) (by omega) (by omega) he1 (by omega)
        refine lv_aload_n E.1 E.2.1 dX1_wallTicks_36 rfl (lv_at hl 0 rfl) ?_
        refine lv_iload_n E.1 E.2.1 dX1_wallTicks_37 rfl (lv_at hl 2 rfl) ?_
        refine lv_iload E.1 E.2.1 dX1_wallTicks_38 (lv_at hl 5 rfl) ?_
        refine z_bipush E dX1_wallTicks_40 (by decide +kernel) ?_
        refine z_top (31 : Int) (rfl) ?_
        refine z_callV (As := [.int (i32 (e2 : Int)), .int (i32 (n : Int)), .int (i32 (31 : Int))]) (rest := [.int (i32 (minb (fb e1 n u (T 0 0) v1 (T 1 0)) 50)), .int (i32 (rmin (wlf e1 e2 u (T 0 0) v1 (T 1 0)) n))]) (n := 3) E X (lL_0 R cA h T_5) rfl (L_leastTicks l D cA B0 R h T_5 u (by omega) hIT_5 e2 n 31 (by omega) (by omega) (by omega) v1 (T 1 0) (by omega) (by omega) (fun hz => by omega) (fun _ => hLT_5)) gX1_wallTicks_X1_leastTicks rfl (by decide +kernel) ⟨by decide, by decide⟩ rfl hl.1 rfl (Nat.le_of_ble_eq_true rfl) dX1_wallTicks_42 ⟨by decide, by decide⟩ X.1 0 0 ⟨rfl, rfl⟩ (fun v H locs hv hS_6 => ?_)
        obtain ⟨rfl, T_7, hIT_7, hrT_7, hLT_7, hsT_7, hw⟩ := hv
        replace X : zX D B0 (zl (layL cA h T_7) R) s.heap H locs := ⟨hw, hS_6⟩
        have e02 : T_5 0 0 = T 0 0 := by rw [hsT_5 0 (by decide) (by decide)]; exact e0
        refine z_top (minb (fb e2 n u (T 0 0) v1 (T 1 0)) 50) (by rw [e02]) ?_
        have hm2 := mfb_rng (ex := e2) (x := n) (u := u) (w := T 0 0) (kk := v1) (dd := T 1 0) (by omega) (by omega) (by omega) (by omega) he2 (by omega)
        have hrr := rmin_rng (f := wlf e1 e2 u (T 0 0) v1 (T 1 0)) (lo := 0) (by decide) (n := n) (fun k hk => by have a1 := mfb_rng (ex := e1) (x := k) (u := u) (w := T 0 0) (kk := v1) (dd := T 1 0) (by omega) (by omega) (by omega) (by omega) he1 (by omega); have a2 := mfb_rng (ex := e2) (x := k) (u := u) (w := T 0 0) (kk := v1) (dd := T 1 0) (by omega) (by omega) (by omega) (by omega) he2 (by omega); unfold wlf; omega)
        refine z_iadd E dX1_wallTicks_45 ?_
        refine z_mmin E ⟨by omega, by omega⟩ ⟨by omega, by omega⟩ (by decide +kernel) (by decide +kernel) (by decide +kernel) (by decide +kernel) hl.1 (by decide) (Nat.le_of_ble_eq_true rfl) ⟨by decide, by decide⟩ dX1_wallTicks_46 ?_
        refine z_top (rmin (wlf e1 e2 u (T 0 0) v1 (T 1 0)) (n + 1)) (by rw [rmin_S]; rfl) ?_
        refine lv_istore (lv' := [(4, .int (i32 (rmin (wlf e1 e2 u (T 0 0) v1 (T 1 0)) (n + 1)))), (0, .ref (h 0)), (1, .int (i32 (e1 : Int))), (2, .int (i32 (e2 : Int))), (3, .int (i32 v1)), (5, .int (i32 (n : Int)))]) E.1 E.2.1 dX1_wallTicks_49 hl (by decide) rfl (fun ls hl => ?_)
        refine z_iinc (lv' := [(5, .int (i32 ((n + 1 : Nat) : Int))), (4, .int (i32 (rmin (wlf e1 e2 u (T 0 0) v1 (T 1 0)) (n + 1)))), (0, .ref (h 0)), (1, .int (i32 (e1 : Int))), (2, .int (i32 (e2 : Int))), (3, .int (i32 v1))]) E dX1_wallTicks_51 hl (k := 5) rfl (by decide) rfl (fun ls hl => ?_)
        refine lv_goto (tgt := 18) E.1 E.2.1 dX1_wallTicks_54 (by decide) ?_
        exact ih18 (n + 1) T_7 _ _ _ (by omega) (by omega) (⟨hIT_7, hrT_7, hLT_7, fun q a b => by rw [hsT_7 q a b, hsT_5 q a b]; exact hIJ.2.2.2 q a b⟩) X (lv_sub hl [2, 3, 4, 5, 1, 0] rfl)
  exact key18 ((51 - 0) + 1) 0 T_2 _ _ _ (by omega) (by omega) (⟨hFL.1, hFL.2.1, hFL.2.2, hT_2.1⟩) X (lv_sub hl [2, 3, 4, 5, 1, 0] rfl)

abbrev rX1_lay : Room := { frames := 2, cells := 0, slots := 0, locals := 48 }
theorem LI_lay {T T1 T2 : zS} {w1 p1 u1 v1 : Int} (hw : 0 ≤ w1 ∧ w1 ≤ 20) (hp : 1 ≤ p1 ∧ p1 ≤ 30) (hv : 1 ≤ v1 ∧ v1 ≤ 8) (h : (∀ q : Nat, q ≠ 4 → T1 q = (zs (zs (zs T 0 0 w1) 1 0 p1) 2 0 v1) q) ∧ ∀ r : Nat, r < 33 → T1 4 r = 0) (hF : LF T1 T2 32 u1 w1) : LI T2 u1 ∧ T2 0 0 = w1 ∧ T2 1 0 = p1 ∧ T2 2 0 = v1 := by
  obtain ⟨f1, f2, f3, f4⟩ := hF
  have e0 : T2 0 0 = w1 := by rw [f1 0 (by decide) (by decide), h.1 0 (by decide)]; rfl
  have e1 : T2 1 0 = p1 := by rw [f1 1 (by decide) (by decide), h.1 1 (by decide)]; rfl
  have e2 : T2 2 0 = v1 := by rw [f1 2 (by decide) (by decide), h.1 2 (by decide)]; rfl
  refine ⟨⟨by rw [e0]; exact hw, by rw [e1]; exact hp, by rw [e2]; exact hv, fun r hr => ?_, fun r hr h1 => ?_, by rw [e0]; exact f4⟩, e0, e1, e2⟩
  · rw [f2]
    unfold zg
    split
    · exact Or.inr rfl
    · exact Or.inl (h.2 r hr)
  · rw [f2, zg_ne (by omega), h.2 r (by omega)] at h1
    omega
set_option maxHeartbeats 4000000 in
set_option maxRecDepth 100000 in
theorem L_lay (l : Launch) (D : va_G) (cA : Nat → ClassId) (B0 : Nat) (R : zL) (h : Nat → Nat) (T : zS) (w1 p1 u1 v1 : Int) (hw1 : 0 ≤ w1 ∧ w1 ≤ 20) (hp1 : 1 ≤ p1 ∧ p1 ≤ 30) (hu1 : 1 ≤ u1 ∧ u1 ≤ 8) (hv1 : 1 ≤ v1 ∧ v1 ≤ 8) : zM l yX1_lay wsX1_lay rX1_lay [.ref (h 0), .int (i32 w1), .int (i32 p1), .int (i32 u1), .int (i32 v1)] D cA B0 (zW D B0 (zl (layL cA h T) R)) (fun v H => v = none ∧ ∃ T' : zS, LI T' u1 ∧ T' 0 0 = w1 ∧ T' 1 0 = p1 ∧ T' 2 0 = v1 ∧ zW D B0 (zl (layL cA h T') R) H) := by
  refine z_met (cc := cX1_lay) (maxL := 6) (ret := none) (by decide) rfl (Nat.le_of_ble_eq_true rfl) ?_
  intro p e s m args below meth c ls Q hQ E hP hB hS hl
  have hl : lv_has ls 6 [(0, .ref (h 0)), (1, .int (i32 w1)), (2, .int (i32 p1)), (3, .int (i32 u1)), (4, .int (i32 v1))] := hl
  have iX1 : ∀ w ∈ u_ws RX1 TX1 5, w ∈ wsX1_lay := by decide +kernel
  have X : zX D B0 (zl (layL cA h T) R) s.heap s.heap [] := ⟨hP, hS⟩
  refine lv_aload_n E.1 E.2.1 dX1_lay_0 rfl (lv_at hl 0 rfl) ?_
  refine lv_iload_n E.1 E.2.1 dX1_lay_1 rfl (lv_at hl 1 rfl) ?_
  refine z_put E X (lL_0 R cA h T) rfl iX1 tyX1 tyX1_ok nmX1 0 (by decide) (by decide +kernel) rfl rfl rfl (Nat.le_of_ble_eq_true rfl) dX1_lay_2 (fun H locs X => ?_)
  have X := lp_0 X
  refine lv_aload_n E.1 E.2.1 dX1_lay_5 rfl (lv_at hl 0 rfl) ?_
  refine lv_iload_n E.1 E.2.1 dX1_lay_6 rfl (lv_at hl 2 rfl) ?_
  refine z_put E X (lL_0 R cA h (zs T 0 0 w1)) rfl iX1 tyX1 tyX1_ok nmX1 1 (by decide) (by decide +kernel) rfl rfl rfl (Nat.le_of_ble_eq_true rfl) dX1_lay_7 (fun H locs X => ?_)
  have X := lp_1 X
  refine lv_aload_n E.1 E.2.1 dX1_lay_10 rfl (lv_at hl 0 rfl) ?_
  refine lv_iload E.1 E.2.1 dX1_lay_11 (lv_at hl 4 rfl) ?_
  refine z_put E X (lL_0 R cA h (zs (zs T 0 0 w1) 1 0 p1)) rfl iX1 tyX1 tyX1_ok nmX1 2 (by decide) (by decide +kernel) rfl rfl rfl (Nat.le_of_ble_eq_true rfl) dX1_lay_13 (fun H locs X => ?_)
  have X := lp_2 X
  refine z_iconst E dX1_lay_16 ?_
  refine z_top (0 : Int) (rfl) ?_
  refine lv_istore (lv' := [(5, .int (i32 (0 : Int))), (0, .ref (h 0)), (1, .int (i32 w1)), (2, .int (i32 p1)), (3, .int (i32 u1)), (4, .int (i32 v1))]) E.1 E.2.1 dX1_lay_17 hl (by decide) rfl (fun ls hl => ?_)
  have key19 : ∀ (N : Nat) (n : Nat) (T' : zS) (H : Heap) (locs : List Loc) (ls : Array Slot), (33 - n) < N → (n ≤ 33) → ((∀ q : Nat, q ≠ 4 → T' q = (zs (zs (zs T 0 0 w1) 1 0 p1) 2 0 v1) q) ∧ ∀ r : Nat, r < n → T' 4 r = 0) → zX D B0 (zl (layL cA h T') R) s.heap H locs → lv_has ls 6 [(0, .ref (h 0)), (1, .int (i32 w1)), (2, .int (i32 p1)), (3, .int (i32 u1)), (4, .int (i32 v1)), (5, .int (i32 (n : Int)))] → W p l e rX1_lay s m args below meth c H locs 0 0 Q (F0 m 19 ls []) := by
    intro N
    induction N with
    | zero => intros; omega
    | succ N ih19 =>
      intro n T' H locs ls hN hn hT X hl
      refine lv_iload E.1 E.2.1 dX1_lay_19 (lv_at hl 5 rfl) ?_
      refine lv_aload_n E.1 E.2.1 dX1_lay_21 rfl (lv_at hl 0 rfl) ?_
      refine z_get E X (lL_0 R cA h T') rfl iX1 4 (by decide) (by decide +kernel) (v := .ref (h 4)) rfl dX1_lay_22 ?_
      refine z_alen (z := 33) E X 1 (lL_4 R cA h T') rfl (by omega) dX1_lay_25 ?_
      refine z_cge E 43 ⟨by omega, by omega⟩ ⟨by omega, by omega⟩ dX1_lay_26 (by decide) (fun h26_1 => ?_) (fun h26_1 => ?_)
      · refine lv_aload_n E.1 E.2.1 dX1_lay_43 rfl (lv_at hl 0 rfl) ?_
        refine z_bipush E dX1_lay_44 (by decide +kernel) ?_
        refine z_top (32 : Int) (rfl) ?_
        refine lv_iload_n E.1 E.2.1 dX1_lay_46 rfl (lv_at hl 1 rfl) ?_
        refine lv_iload_n E.1 E.2.1 dX1_lay_47 rfl (lv_at hl 3 rfl) ?_
        refine z_callV (As := [.int (i32 (32 : Int)), .int (i32 w1), .int (i32 u1)]) (rest := []) (n := 3) E X (lL_0 R cA h T') rfl (L_fillRow l D cA B0 R h T' 32 w1 u1 (by omega) (by omega) (by omega)) gX1_lay_X1_fillRow rfl (by decide +kernel) ⟨by decide, by decide⟩ rfl hl.1 rfl (Nat.le_of_ble_eq_true rfl) dX1_lay_48 ⟨by decide, by decide⟩ X.1 0 0 ⟨rfl, rfl⟩ (fun v H locs hv hS_2 => ?_)
        obtain ⟨rfl, T_3, hT_3, hw⟩ := hv
        replace X : zX D B0 (zl (layL cA h T_3) R) s.heap H locs := ⟨hw, hS_2⟩
        have hT9 := hT
        rw [show n = 33 by omega] at hT9
        have hLL := LI_lay hw1 hp1 hv1 hT9 hT_3
        exact z_retv E X hQ (⟨rfl, T_3, hLL.1, hLL.2.1, hLL.2.2.1, hLL.2.2.2, X.1⟩) dX1_lay_51
      · refine lv_aload_n E.1 E.2.1 dX1_lay_29 rfl (lv_at hl 0 rfl) ?_
        refine z_get E X (lL_0 R cA h T') rfl iX1 4 (by decide) (by decide +kernel) (v := .ref (h 4)) rfl dX1_lay_30 ?_
        refine lv_iload E.1 E.2.1 dX1_lay_33 (lv_at hl 5 rfl) ?_
        refine z_iconst E dX1_lay_35 ?_
        refine z_zast E X (lL_4 R cA h T') (by omega) n (by omega) (by omega) (by decide) dX1_lay_36 (fun H locs X => ?_)
        have X := la_4 X
        refine z_iinc (lv' := [(5, .int (i32 ((n + 1 : Nat) : Int))), (0, .ref (h 0)), (1, .int (i32 w1)), (2, .int (i32 p1)), (3, .int (i32 u1)), (4, .int (i32 v1))]) E dX1_lay_37 hl (k := 5) rfl (by decide) rfl (fun ls hl => ?_)
        refine lv_goto (tgt := 19) E.1 E.2.1 dX1_lay_40 (by decide) ?_
        exact ih19 (n + 1) (zs T' 4 n 0) _ _ _ (by omega) (by omega) (⟨fun q hq => by rw [zs_ne hq]; exact hT.1 q hq, fun r hr => by rw [zs_eq]; exact (if hh : r = n then (by rw [hh, zg_eq]) else (by rw [zg_ne hh]; exact hT.2 r (by omega)))⟩) X (lv_sub hl [1, 2, 3, 4, 5, 0] rfl)
  exact key19 ((33 - 0) + 1) 0 (zs (zs (zs T 0 0 w1) 1 0 p1) 2 0 v1) _ _ _ (by omega) (by omega) (⟨fun _ _ => rfl, fun r hr => absurd hr (Nat.not_lt_zero r)⟩) X (lv_sub hl [1, 2, 3, 4, 5, 0] rfl)

