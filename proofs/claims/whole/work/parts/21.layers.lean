abbrev rX1_floor : Room := { frames := 0, cells := 0, slots := 0, locals := 0 }
set_option maxHeartbeats 4000000 in
set_option maxRecDepth 100000 in
theorem L_floor (l : Launch) (D : va_G) (cA : Nat → ClassId) (B0 : Nat) (R : zL) (h : Nat → Nat) (T : zS) : zM l yX1_floor wsX1_floor rX1_floor [.ref (h 0)] D cA B0 (zW D B0 (zl (layL cA h T) R)) (fun v H => v = some (.int (i32 (T 0 0 + T 1 0))) ∧ zW D B0 (zl (layL cA h T) R) H) := by
  refine z_met (cc := cX1_floor) (maxL := 1) (ret := (some .int)) (by decide) rfl (Nat.le_of_ble_eq_true rfl) ?_
  intro p e s m args below meth c ls Q hQ E hP hB hS hl
  have hl : lv_has ls 1 [(0, .ref (h 0))] := hl
  have iX1 : ∀ w ∈ u_ws RX1 TX1 7, w ∈ wsX1_floor := by decide +kernel
  have X : zX D B0 (zl (layL cA h T) R) s.heap s.heap [] := ⟨hP, hS⟩
  refine lv_aload_n E.1 E.2.1 dX1_floor_0 rfl (lv_at hl 0 rfl) ?_
  refine z_get E X (lL_0 R cA h T) rfl iX1 0 (by decide) (by decide +kernel) (v := .int (i32 (T 0 0))) rfl dX1_floor_1 ?_
  refine lv_aload_n E.1 E.2.1 dX1_floor_4 rfl (lv_at hl 0 rfl) ?_
  refine z_get E X (lL_0 R cA h T) rfl iX1 1 (by decide) (by decide +kernel) (v := .int (i32 (T 1 0))) rfl dX1_floor_5 ?_
  refine z_iadd E dX1_floor_8 ?_
  exact z_ret E X hQ (⟨rfl, X.1⟩) dX1_floor_9

abbrev rX1_holds : Room := { frames := 1, cells := 0, slots := 0, locals := 22 }
set_option maxHeartbeats 4000000 in
set_option maxRecDepth 100000 in
theorem L_holds (l : Launch) (D : va_G) (cA : Nat → ClassId) (B0 : Nat) (R : zL) (h : Nat → Nat) (T : zS) (hT : (0 ≤ T 0 0 ∧ T 0 0 ≤ 20) ∧ (1 ≤ T 1 0 ∧ T 1 0 ≤ 30)) (x y : Int) (hx : zr x) (hy : zr y) : zM l yX1_holds wsX1_holds rX1_holds [.ref (h 0), .int (i32 x), .int (i32 y)] D cA B0 (zW D B0 (zl (layL cA h T) R)) (fun v H => (∃ z : Int, v = some (.int (i32 z)) ∧ (z = 1 ∧ (0 ≤ x ∧ x ≤ 50 ∧ T 0 0 ≤ y ∧ y ≤ T 0 0 + T 1 0) ∨ z = 0 ∧ ¬ (0 ≤ x ∧ x ≤ 50 ∧ T 0 0 ≤ y ∧ y ≤ T 0 0 + T 1 0))) ∧ zW D B0 (zl (layL cA h T) R) H) := by
  refine z_met (cc := cX1_holds) (maxL := 3) (ret := (some .boolean)) (by decide) rfl (Nat.le_of_ble_eq_true rfl) ?_
  intro p e s m args below meth c ls Q hQ E hP hB hS hl
  have hl : lv_has ls 3 [(0, .ref (h 0)), (1, .int (i32 x)), (2, .int (i32 y))] := hl
  have iX1 : ∀ w ∈ u_ws RX1 TX1 7, w ∈ wsX1_holds := by decide +kernel
  have X : zX D B0 (zl (layL cA h T) R) s.heap s.heap [] := ⟨hP, hS⟩
  unfold zr at hx hy
  refine lv_iload_n E.1 E.2.1 dX1_holds_0 rfl (lv_at hl 1 rfl) ?_
  refine z_iconst E dX1_holds_1 ?_
  refine z_bipush E dX1_holds_2 (by decide +kernel) ?_
  refine z_callN (As := [.int (i32 x), .int (i32 0), .int (i32 50)]) (rest := []) (n := 3) E X (c_outside l D cA B0 _ x 0 50 ⟨by omega, by omega⟩ ⟨by omega, by omega⟩ ⟨by omega, by omega⟩) gX1_holds_X5_outside_n43 rfl (by decide +kernel) (by decide +kernel) (by decide +kernel) ⟨by decide, by decide⟩ rfl hl.1 rfl (Nat.le_of_ble_eq_true rfl) dX1_holds_4 ⟨by decide, by decide⟩ rfl 0 0 ⟨rfl, rfl⟩ (fun v H locs hv hS_1 => ?_)
  obtain ⟨hH, z_2, rfl, ez_2⟩ := hv
  subst hH
  replace X := X.same hS_1
  refine z_fne E 34 ⟨by omega, by omega⟩ dX1_holds_7 (by decide) (fun h7_3 => ?_) (fun h7_3 => ?_)
  · refine z_iconst E dX1_holds_34 ?_
    exact z_retz E X hQ (by omega) (⟨⟨0, rfl, by omega⟩, X.1⟩) dX1_holds_35
  · refine lv_iload_n E.1 E.2.1 dX1_holds_10 rfl (lv_at hl 2 rfl) ?_
    refine lv_aload_n E.1 E.2.1 dX1_holds_11 rfl (lv_at hl 0 rfl) ?_
    refine z_get E X (lL_0 R cA h T) rfl iX1 0 (by decide) (by decide +kernel) (v := .int (i32 (T 0 0))) rfl dX1_holds_12 ?_
    refine lv_aload_n E.1 E.2.1 dX1_holds_15 rfl (lv_at hl 0 rfl) ?_
    refine z_get E X (lL_0 R cA h T) rfl iX1 0 (by decide) (by decide +kernel) (v := .int (i32 (T 0 0))) rfl dX1_holds_16 ?_
    refine lv_aload_n E.1 E.2.1 dX1_holds_19 rfl (lv_at hl 0 rfl) ?_
    refine z_get E X (lL_0 R cA h T) rfl iX1 1 (by decide) (by decide +kernel) (v := .int (i32 (T 1 0))) rfl dX1_holds_20 ?_
    refine z_iadd E dX1_holds_23 ?_
    refine z_callN (As := [.int (i32 y), .int (i32 (T 0 0)), .int (i32 ((T 0 0) + (T 1 0)))]) (rest := []) (n := 3) E X (c_outside l D cA B0 _ y (T 0 0) ((T 0 0) + (T 1 0)) ⟨by omega, by omega⟩ ⟨by omega, by omega⟩ ⟨by omega, by omega⟩) gX1_holds_X5_outside_n43 rfl (by decide +kernel) (by decide +kernel) (by decide +kernel) ⟨by decide, by decide⟩ rfl hl.1 rfl (Nat.le_of_ble_eq_true rfl) dX1_holds_24 ⟨by decide, by decide⟩ rfl 0 0 ⟨rfl, rfl⟩ (fun v H locs hv hS_4 => ?_)
    obtain ⟨hH, z_5, rfl, ez_5⟩ := hv
    subst hH
    replace X := X.same hS_4
    refine z_fne E 34 ⟨by omega, by omega⟩ dX1_holds_27 (by decide) (fun h27_6 => ?_) (fun h27_6 => ?_)
    · refine z_iconst E dX1_holds_34 ?_
      exact z_retz E X hQ (by omega) (⟨⟨0, rfl, by omega⟩, X.1⟩) dX1_holds_35
    · refine z_iconst E dX1_holds_30 ?_
      refine lv_goto (tgt := 35) E.1 E.2.1 dX1_holds_31 (by decide) ?_
      exact z_retz E X hQ (by omega) (⟨⟨1, rfl, by omega⟩, X.1⟩) dX1_holds_35

def frt (g : Nat → Int) (k dy : Int) (m : Nat) : Nat → Int := fun j => if j < m then tk k (j : Int) dy else g j
theorem frt_S {g : Nat → Int} {k dy : Int} {m : Nat} : zg (frt g k dy m) m (tk k (m : Int) dy) = frt g k dy (m + 1) := by
  funext j
  unfold zg frt
  by_cases h : j = m
  · rw [if_pos h, if_pos (by omega), h]
  · rw [if_neg h]
    by_cases h2 : j < m
    · rw [if_pos h2, if_pos (by omega)]
    · rw [if_neg h2, if_neg (by omega)]
theorem sq_step {k dy : Int} {n : Nat} : k * k * ((n : Int) * (n : Int) + dy * dy) ≤ k * k * (((n + 1 : Nat) : Int) * ((n + 1 : Nat) : Int) + dy * dy) := by
  have hk : 0 ≤ k * k := by
    rcases Int.le_total 0 k with q | q
    · exact Int.mul_nonneg q q
    · rw [← Int.neg_mul_neg]
      exact Int.mul_nonneg (by omega) (by omega)
  have hn : (n : Int) * (n : Int) ≤ ((n + 1 : Nat) : Int) * ((n + 1 : Nat) : Int) := Int.mul_le_mul (by omega) (by omega) (by omega) (by omega)
  exact Int.mul_le_mul_of_nonneg_left (by omega) hk
theorem sq_start {k dy : Int} (hk : 0 ≤ k ∧ k ≤ 8) (hy : 0 ≤ dy ∧ dy ≤ 30) : (0 : Int) * 0 ≤ k * k * (((0 : Nat) : Int) * ((0 : Nat) : Int) + dy * dy) := by
  rw [Int.zero_mul]
  exact (tk_arg (k := k) (dx := ((0 : Nat) : Int)) (dy := dy) hk (by omega) (by omega)).1
abbrev rX1_fillTicks : Room := { frames := 0, cells := 0, slots := 0, locals := 0 }
set_option maxHeartbeats 4000000 in
set_option maxRecDepth 100000 in
theorem L_fillTicks (l : Launch) (D : va_G) (cA : Nat → ClassId) (B0 : Nat) (L : zL) (kp ip aa : Nat) (g : Nat → Int) (dy k : Int) (hL : L kp ip = some (kI cA aa 51 g)) (hdy : 0 ≤ dy ∧ dy ≤ 30) (hk : 0 ≤ k ∧ k ≤ 8) : zM l yX1_fillTicks wsX1_fillTicks rX1_fillTicks [.ref aa, .int (i32 dy), .int (i32 k)] D cA B0 (zW D B0 L) (fun v H => v = none ∧ zW D B0 (zu L kp ip (some (kI cA aa 51 (fun j => tk k (j : Int) dy)))) H) := by
  refine z_met (cc := cX1_fillTicks) (maxL := 6) (ret := none) (by decide) rfl (Nat.le_of_ble_eq_true rfl) ?_
  intro p e s m args below meth c ls Q hQ E hP hB hS hl
  have hl : lv_has ls 6 [(0, .ref aa), (1, .int (i32 dy)), (2, .int (i32 k))] := hl
  have X : zX D B0 (zu L kp ip (some (kI cA aa 51 g))) s.heap s.heap [] := by rw [zu_id hL]; exact ⟨hP, hS⟩
  refine z_iconst E dX1_fillTicks_0 ?_
  refine lv_istore_n (lv' := [(3, .int (i32 0)), (0, .ref aa), (1, .int (i32 dy)), (2, .int (i32 k))]) E.1 E.2.1 dX1_fillTicks_1 rfl hl (by decide) rfl (fun ls hl => ?_)
  refine z_iconst E dX1_fillTicks_2 ?_
  refine z_top (0 : Int) (rfl) ?_
  refine lv_istore (lv' := [(4, .int (i32 (0 : Int))), (3, .int (i32 0)), (0, .ref aa), (1, .int (i32 dy)), (2, .int (i32 k))]) E.1 E.2.1 dX1_fillTicks_3 hl (by decide) rfl (fun ls hl => ?_)
  have X : zX D B0 (zu L kp ip (some (kI cA aa 51 (frt g k dy 0)))) s.heap s.heap [] := by rw [show frt g k dy 0 = g from funext (fun j => if_neg (Nat.not_lt_zero j))]; exact X
  have key5 : ∀ (N : Nat) (n : Nat) (t0 : Int) (H : Heap) (locs : List Loc) (ls : Array Slot), (51 - n) < N → (n ≤ 51) → (0 ≤ t0) → (t0 * t0 ≤ k * k * ((n : Int) * (n : Int) + dy * dy)) → zX D B0 (zu L kp ip (some (kI cA aa 51 (frt g k dy n)))) s.heap H locs → lv_has ls 6 [(0, .ref aa), (1, .int (i32 dy)), (2, .int (i32 k)), (3, .int (i32 t0)), (4, .int (i32 (n : Int)))] → W p l e rX1_fillTicks s m args below meth c H locs 0 0 Q (F0 m 5 ls []) := by
    intro N
    induction N with
    | zero => intros; omega
    | succ N ih5 =>
      intro n t0 H locs ls hN hn h0 h2 X hl
      refine lv_iload E.1 E.2.1 dX1_fillTicks_5 (lv_at hl 4 rfl) ?_
      refine lv_aload_n E.1 E.2.1 dX1_fillTicks_7 rfl (lv_at hl 0 rfl) ?_
      refine z_alen (z := 51) E X 0 (zu_self L kp ip _) rfl (by omega) dX1_fillTicks_8 ?_
      refine z_cge E 63 ⟨by omega, by omega⟩ ⟨by omega, by omega⟩ dX1_fillTicks_9 (by decide) (fun h9_1 => ?_) (fun h9_1 => ?_)
      · have X := X.arr (g := fun j => tk k (j : Int) dy) (fun q hq => if_pos (by omega))
        exact z_retv E X hQ (⟨rfl, X.1⟩) dX1_fillTicks_63
      · refine lv_iload_n E.1 E.2.1 dX1_fillTicks_12 rfl (lv_at hl 2 rfl) ?_
        refine lv_iload_n E.1 E.2.1 dX1_fillTicks_13 rfl (lv_at hl 2 rfl) ?_
        refine z_imul E dX1_fillTicks_14 ?_
        refine lv_iload E.1 E.2.1 dX1_fillTicks_15 (lv_at hl 4 rfl) ?_
        refine lv_iload E.1 E.2.1 dX1_fillTicks_17 (lv_at hl 4 rfl) ?_
        refine z_imul E dX1_fillTicks_19 ?_
        refine lv_iload_n E.1 E.2.1 dX1_fillTicks_20 rfl (lv_at hl 1 rfl) ?_
        refine lv_iload_n E.1 E.2.1 dX1_fillTicks_21 rfl (lv_at hl 1 rfl) ?_
        refine z_imul E dX1_fillTicks_22 ?_
        refine z_iadd E dX1_fillTicks_23 ?_
        refine z_imul E dX1_fillTicks_24 ?_
        obtain ⟨sq, hsq⟩ : ∃ sq : Int, sq = k * k * ((n : Int) * (n : Int) + dy * dy) := ⟨_, rfl⟩
        have hta := tk_arg (k := k) (dx := (n : Int)) (dy := dy) (by omega) (by omega) (by omega)
        rw [← hsq] at hta
        refine z_top sq (hsq.symm) ?_
        refine lv_istore (lv' := [(5, .int (i32 sq)), (0, .ref aa), (1, .int (i32 dy)), (2, .int (i32 k)), (3, .int (i32 t0)), (4, .int (i32 (n : Int)))]) E.1 E.2.1 dX1_fillTicks_25 hl (by decide) rfl (fun ls hl => ?_)
        have key27 : ∀ (N : Nat) (tt : Int) (H : Heap) (locs : List Loc) (ls : Array Slot), (Int.toNat (2000 - tt)) < N → (0 ≤ tt) → (tt * tt ≤ sq) → zX D B0 (zu L kp ip (some (kI cA aa 51 (frt g k dy n)))) s.heap H locs → lv_has ls 6 [(0, .ref aa), (1, .int (i32 dy)), (2, .int (i32 k)), (3, .int (i32 tt)), (4, .int (i32 (n : Int))), (5, .int (i32 sq))] → W p l e rX1_fillTicks s m args below meth c H locs 0 0 Q (F0 m 27 ls []) := by
          intro N
          induction N with
          | zero => intros; omega
          | succ N ih27 =>
            intro tt H locs ls hN h0 h2 X hl
            refine lv_iload_n E.1 E.2.1 dX1_fillTicks_27 rfl (lv_at hl 3 rfl) ?_
            have ht6 : tt < 600 := sq_lt h0 (by omega) (by omega)
            have ht7 := sq_le (a := tt + 1) (m := 601) (by omega) (by omega)
            refine z_sipush E dX1_fillTicks_28 (by decide +kernel) ?_
            refine z_cge E 52 ⟨by omega, by omega⟩ ⟨by omega, by omega⟩ dX1_fillTicks_31 (by decide) (fun h31_2 => ?_) (fun h31_2 => ?_)
            · exfalso
              omega
            · refine lv_iload_n E.1 E.2.1 dX1_fillTicks_34 rfl (lv_at hl 3 rfl) ?_
              refine z_iconst E dX1_fillTicks_35 ?_
              refine z_iadd E dX1_fillTicks_36 ?_
              refine lv_iload_n E.1 E.2.1 dX1_fillTicks_37 rfl (lv_at hl 3 rfl) ?_
              refine z_iconst E dX1_fillTicks_38 ?_
              refine z_iadd E dX1_fillTicks_39 ?_
              refine z_imul E dX1_fillTicks_40 ?_
              refine lv_iload E.1 E.2.1 dX1_fillTicks_41 (lv_at hl 5 rfl) ?_
              refine z_cgt E 52 ⟨by omega, by omega⟩ ⟨by omega, by omega⟩ dX1_fillTicks_43 (by decide) (fun h43_3 => ?_) (fun h43_3 => ?_)
              · have eq9 := isq_eq (n := sq) (r := tt) (by omega) h0 h2 (by omega)
                refine lv_aload_n E.1 E.2.1 dX1_fillTicks_52 rfl (lv_at hl 0 rfl) ?_
                refine lv_iload E.1 E.2.1 dX1_fillTicks_53 (lv_at hl 4 rfl) ?_
                refine lv_iload_n E.1 E.2.1 dX1_fillTicks_55 rfl (lv_at hl 3 rfl) ?_
                refine z_top (tk k (n : Int) dy) (by rw [eq9, hsq]; rfl) ?_
                refine z_iast E X (zu_self L kp ip (some (kI cA aa 51 (frt g k dy n)))) n (by omega) (by omega) (by decide) dX1_fillTicks_56 (fun H locs X => ?_)
                rw [zu_zu] at X
                have X : zX D B0 (zu L kp ip (some (kI cA aa 51 (frt g k dy (n + 1))))) s.heap H locs := by rw [← frt_S]; exact X
                refine z_iinc (lv' := [(4, .int (i32 ((n + 1 : Nat) : Int))), (0, .ref aa), (1, .int (i32 dy)), (2, .int (i32 k)), (3, .int (i32 tt)), (5, .int (i32 sq))]) E dX1_fillTicks_57 hl (k := 4) rfl (by decide) rfl (fun ls hl => ?_)
                refine lv_goto (tgt := 5) E.1 E.2.1 dX1_fillTicks_60 (by decide) ?_
                exact ih5 (n + 1) tt _ _ _ (by omega) (by omega) h0 (Int.le_trans h2 (by rw [hsq]; exact sq_step)) X (lv_sub hl [1, 2, 3, 4, 0] rfl)
              · refine z_iinc (lv' := [(3, .int (i32 (tt + 1))), (0, .ref aa), (1, .int (i32 dy)), (2, .int (i32 k)), (4, .int (i32 (n : Int))), (5, .int (i32 sq))]) E dX1_fillTicks_46 hl (k := 3) rfl (by decide) rfl (fun ls hl => ?_)
                refine lv_goto (tgt := 27) E.1 E.2.1 dX1_fillTicks_49 (by decide) ?_
                exact ih27 (tt + 1) _ _ _ (by omega) (by omega) (by omega) X (lv_sub hl [1, 2, 3, 0, 4, 5] rfl)
        exact key27 ((Int.toNat (2000 - t0)) + 1) t0 _ _ _ (by omega) h0 (by rw [hsq]; exact h2) X (lv_sub hl [1, 2, 3, 4, 5, 0] rfl)
  exact key5 ((51 - 0) + 1) 0 0 _ _ _ (by omega) (by omega) (by omega) (sq_start hk hdy) X (lv_sub hl [2, 3, 4, 1, 0] rfl)

/-- while a row of times is filled: below n it stands -/
def fiI (T : zS) (row n : Nat) (u w k dy : Int) (T' : zS) : Prop := (∀ q : Nat, q ≠ 5 → T' q = T q) ∧ (∀ q : Nat, q < 51 * row ∨ 51 * row + 51 ≤ q → T' 5 q = T 5 q) ∧ ∀ d : Nat, d < n → T' 5 (51 * row + d) = mt u w k dy d
theorem fiI_0 {T : zS} {row : Nat} {u w k dy : Int} : fiI T row 0 u w k dy T := ⟨fun _ _ => rfl, fun _ _ => rfl, fun d h => absurd h (Nat.not_lt_zero d)⟩
theorem fiI_S {T T' : zS} {row n : Nat} {u w k dy z : Int} (h : fiI T row n u w k dy T') (hn : n < 51) (hz : z = mt u w k dy n) : fiI T row (n + 1) u w k dy (zs T' 5 (51 * row + n) z) := by
  obtain ⟨h1, h2, h3⟩ := h
  refine ⟨fun q hq => by rw [zs_ne hq]; exact h1 q hq, fun q hq => ?_, fun d hd => ?_⟩
  · rw [zs_eq, zg_ne (by omega)]
    exact h2 q hq
  · rw [zs_eq]
    by_cases e : d = n
    · rw [e, zg_eq, hz]
    · rw [zg_ne (by omega)]
      exact h3 d (by omega)
theorem fiI_end {T T1 T' : zS} {row : Nat} {u k dy : Int} (a1 : ∀ q : Nat, q ≠ 4 → T1 q = T q) (h : fiI T1 row 51 u (T 0 0) k dy T') : LF T (zs T' 6 row 1) row u k dy := by
  obtain ⟨h1, h2, h3⟩ := h
  have e : zs T' 6 row 1 0 0 = T 0 0 := by rw [zs_ne (by decide), h1 0 (by decide), a1 0 (by decide)]
  refine ⟨fun q c4 c5 c6 => by rw [zs_ne c6, h1 q c5]; exact a1 q c4, by rw [zs_eq, h1 6 (by decide), a1 6 (by decide)], fun q hq => by rw [zs_ne (by decide), h2 q hq, a1 5 (by decide)], fun d hd => ?_⟩
  rw [e, zs_ne (by decide)]
  exact h3 d hd
abbrev rX1_fillTimes : Room := { frames := 1, cells := 0, slots := 0, locals := 25 }
set_option maxHeartbeats 4000000 in
set_option maxRecDepth 100000 in
theorem L_fillTimes (l : Launch) (D : va_G) (cA : Nat → ClassId) (B0 : Nat) (R : zL) (h : Nat → Nat) (T : zS) (u : Int) (hu : 1 ≤ u ∧ u ≤ 8) (hI : LI T u) (row : Nat) (dy k : Int) (hrow : row ≤ 31) (hdy : 0 ≤ dy ∧ dy ≤ 30) (hk : 0 ≤ k ∧ k ≤ 8) : zM l yX1_fillTimes wsX1_fillTimes rX1_fillTimes [.ref (h 0), .int (i32 (row : Int)), .int (i32 dy), .int (i32 k)] D cA B0 (zW D B0 (zl (layL cA h T) R)) (fun v H => v = none ∧ ∃ T' : zS, LF T T' row u k dy ∧ zW D B0 (zl (layL cA h T') R) H) := by
  refine z_met (cc := cX1_fillTimes) (maxL := 7) (ret := none) (by decide) rfl (Nat.le_of_ble_eq_true rfl) ?_
  intro p e s m args below meth c ls Q hQ E hP hB hS hl
  have hl : lv_has ls 7 [(0, .ref (h 0)), (1, .int (i32 (row : Int))), (2, .int (i32 dy)), (3, .int (i32 k))] := hl
  have iX1 : ∀ w ∈ u_ws RX1 TX1 7, w ∈ wsX1_fillTimes := by decide +kernel
  have X : zX D B0 (zl (layL cA h T) R) s.heap s.heap [] := ⟨hP, hS⟩
  have hI9 := hI
  obtain ⟨c0, c1, c2, -, -, -⟩ := hI9
  refine lv_iload_n E.1 E.2.1 dX1_fillTimes_0 rfl (lv_at hl 1 rfl) ?_
  refine z_iconst E dX1_fillTimes_1 ?_
  refine z_bipush E dX1_fillTimes_2 (by decide +kernel) ?_
  refine z_callN (As := [.int (i32 (row : Int)), .int (i32 0), .int (i32 31)]) (rest := []) (n := 3) E X (c_outside l D cA B0 _ (row : Int) 0 31 ⟨by omega, by omega⟩ ⟨by omega, by omega⟩ ⟨by omega, by omega⟩) gX1_fillTimes_X5_outside_n43 rfl (by decide +kernel) (by decide +kernel) (by decide +kernel) ⟨by decide, by decide⟩ rfl hl.1 rfl (Nat.le_of_ble_eq_true rfl) dX1_fillTimes_4 ⟨by decide, by decide⟩ rfl 0 0 ⟨rfl, rfl⟩ (fun v H locs hv hS_1 => ?_)
  obtain ⟨hH, z_2, rfl, ez_2⟩ := hv
  subst hH
  replace X := X.same hS_1
  refine z_feq E 11 ⟨by omega, by omega⟩ dX1_fillTimes_7 (by decide) (fun h7_3 => ?_) (fun h7_3 => ?_)
  · refine lv_aload_n E.1 E.2.1 dX1_fillTimes_11 rfl (lv_at hl 0 rfl) ?_
    refine z_get E X (lL_0 R cA h T) rfl iX1 4 (by decide) (by decide +kernel) (v := .ref (h 4)) rfl dX1_fillTimes_12 ?_
    refine lv_iload_n E.1 E.2.1 dX1_fillTimes_15 rfl (lv_at hl 2 rfl) ?_
    refine lv_iload_n E.1 E.2.1 dX1_fillTimes_16 rfl (lv_at hl 3 rfl) ?_
    refine z_callJ (As := [.ref (h 4), .int (i32 dy), .int (i32 k)]) (rest := []) (n := 3) E X (L_fillTicks l D cA B0 (zl (layL cA h T) R) 3 0 (h 4) (T 4) dy k (lL_4 R cA h T) (by omega) (by omega)) gX1_fillTimes_X1_fillTicks rfl (by decide +kernel) ⟨by decide, by decide⟩ rfl hl.1 rfl (Nat.le_of_ble_eq_true rfl) dX1_fillTimes_17 ⟨by decide, by decide⟩ X.1 0 0 ⟨rfl, rfl⟩ (fun v H locs hv hS_4 => ?_)
    obtain ⟨rfl, hw⟩ := hv
    replace X : zX D B0 (zl (layL cA h (zf T 4 (fun j => tk k (j : Int) dy))) R) s.heap H locs := lf_4 ⟨hw, hS_4⟩
    obtain ⟨T1, eT1⟩ : ∃ T1 : zS, T1 = zf T 4 (fun j => tk k (j : Int) dy) := ⟨_, rfl⟩
    rw [← eT1] at X
    have a1 : ∀ q : Nat, q ≠ 4 → T1 q = T q := fun q hq => by rw [eT1, zf_ne hq]
    have a2 : ∀ j : Nat, T1 4 j = tk k (j : Int) dy := fun j => by rw [eT1, zf_eq]
    refine z_iconst E dX1_fillTimes_20 ?_
    refine z_top (0 : Int) (rfl) ?_
    refine lv_istore (lv' := [(4, .int (i32 (0 : Int))), (0, .ref (h 0)), (1, .int (i32 (row : Int))), (2, .int (i32 dy)), (3, .int (i32 k))]) E.1 E.2.1 dX1_fillTimes_21 hl (by decide) rfl (fun ls hl => ?_)
    have key23 : ∀ (N : Nat) (n : Nat) (T' : zS) (H : Heap) (locs : List Loc) (ls : Array Slot), (51 - n) < N → (n ≤ 51) → (fiI T1 row n u (T 0 0) k dy T') → zX D B0 (zl (layL cA h T') R) s.heap H locs → lv_has ls 7 [(0, .ref (h 0)), (1, .int (i32 (row : Int))), (2, .int (i32 dy)), (3, .int (i32 k)), (4, .int (i32 (n : Int)))] → W p l e rX1_fillTimes s m args below meth c H locs 0 0 Q (F0 m 23 ls []) := by
      intro N
      induction N with
      | zero => intros; omega
      | succ N ih23 =>
        intro n T' H locs ls hN hn hT X hl
        refine lv_iload E.1 E.2.1 dX1_fillTimes_23 (lv_at hl 4 rfl) ?_
        refine z_bipush E dX1_fillTimes_25 (by decide +kernel) ?_
        refine z_cgt E 95 ⟨by omega, by omega⟩ ⟨by omega, by omega⟩ dX1_fillTimes_27 (by decide) (fun h27_5 => ?_) (fun h27_5 => ?_)
        · refine lv_aload_n E.1 E.2.1 dX1_fillTimes_95 rfl (lv_at hl 0 rfl) ?_
          refine z_get E X (lL_0 R cA h T') rfl iX1 6 (by decide) (by decide +kernel) (v := .ref (h 6)) rfl dX1_fillTimes_96 ?_
          refine lv_iload_n E.1 E.2.1 dX1_fillTimes_99 rfl (lv_at hl 1 rfl) ?_
          refine z_iconst E dX1_fillTimes_100 ?_
          refine z_zast E X (lL_6 R cA h T') (by omega) row (by omega) (by omega) (by decide) dX1_fillTimes_101 (fun H locs X => ?_)
          have X := la_6 X
          have en : n = 51 := by omega
          rw [en] at hT
          exact z_retv E X hQ (⟨rfl, _, fiI_end a1 hT, X.1⟩) dX1_fillTimes_102
        · refine z_ldc (v := 2147483647) (z := 2147483647) E (by decide +kernel) (by decide +kernel) dX1_fillTimes_30 ?_
          refine z_top (rmin (fm u (T 0 0) k dy n) 0) (rfl) ?_
          refine lv_istore (lv' := [(5, .int (i32 (rmin (fm u (T 0 0) k dy n) 0))), (0, .ref (h 0)), (1, .int (i32 (row : Int))), (2, .int (i32 dy)), (3, .int (i32 k)), (4, .int (i32 (n : Int)))]) E.1 E.2.1 dX1_fillTimes_32 hl (by decide) rfl (fun ls hl => ?_)
          refine z_iconst E dX1_fillTimes_34 ?_
          refine z_top (0 : Int) (rfl) ?_
          refine lv_istore (lv' := [(6, .int (i32 (0 : Int))), (5, .int (i32 (rmin (fm u (T 0 0) k dy n) 0))), (0, .ref (h 0)), (1, .int (i32 (row : Int))), (2, .int (i32 dy)), (3, .int (i32 k)), (4, .int (i32 (n : Int)))]) E.1 E.2.1 dX1_fillTimes_35 hl (by decide) rfl (fun ls hl => ?_)
          have key37 : ∀ (N : Nat) (b : Nat) (H : Heap) (locs : List Loc) (ls : Array Slot), (n + 1 - b) < N → (b ≤ n + 1) → zX D B0 (zl (layL cA h T') R) s.heap H locs → lv_has ls 7 [(0, .ref (h 0)), (1, .int (i32 (row : Int))), (2, .int (i32 dy)), (3, .int (i32 k)), (4, .int (i32 (n : Int))), (5, .int (i32 (rmin (fm u (T 0 0) k dy n) b))), (6, .int (i32 (b : Int)))] → W p l e rX1_fillTimes s m args below meth c H locs 0 0 Q (F0 m 37 ls []) := by
            intro N
            induction N with
            | zero => intros; omega
            | succ N ih37 =>
              intro b H locs ls hN hb X hl
              refine lv_iload E.1 E.2.1 dX1_fillTimes_37 (lv_at hl 6 rfl) ?_
              refine lv_iload E.1 E.2.1 dX1_fillTimes_39 (lv_at hl 4 rfl) ?_
              refine z_cgt E 75 ⟨by omega, by omega⟩ ⟨by omega, by omega⟩ dX1_fillTimes_41 (by decide) (fun h41_6 => ?_) (fun h41_6 => ?_)
              · refine lv_aload_n E.1 E.2.1 dX1_fillTimes_75 rfl (lv_at hl 0 rfl) ?_
                refine z_get E X (lL_0 R cA h T') rfl iX1 5 (by decide) (by decide +kernel) (v := .ref (h 5)) rfl dX1_fillTimes_76 ?_
                refine lv_iload_n E.1 E.2.1 dX1_fillTimes_79 rfl (lv_at hl 1 rfl) ?_
                refine z_bipush E dX1_fillTimes_80 (by decide +kernel) ?_
                refine z_imul E dX1_fillTimes_82 ?_
                refine lv_iload E.1 E.2.1 dX1_fillTimes_83 (lv_at hl 4 rfl) ?_
                refine z_iadd E dX1_fillTimes_85 ?_
                refine z_top ((51 * row + n : Nat) : Int) (by omega) ?_
                refine lv_iload E.1 E.2.1 dX1_fillTimes_86 (lv_at hl 5 rfl) ?_
                have hrm := rmin_is (f := fm u (T 0 0) k dy n) n (fun k9 hk9 => by have := fm_rng (u := u) (w := T 0 0) (kk := k) (dd := dy) (d := n) (b := k9) (by omega) (by omega) (by omega) (by omega) (by omega) (by omega); omega)
                refine z_top (mt u (T 0 0) k dy n) (by rw [show b = n + 1 by omega, hrm]; rfl) ?_
                refine z_iast E X (lL_5 R cA h T') (51 * row + n) (by omega) (by omega) (by decide) dX1_fillTimes_88 (fun H locs X => ?_)
                have X := la_5 X
                refine z_iinc (lv' := [(4, .int (i32 ((n + 1 : Nat) : Int))), (0, .ref (h 0)), (1, .int (i32 (row : Int))), (2, .int (i32 dy)), (3, .int (i32 k)), (5, .int (i32 (rmin (fm u (T 0 0) k dy n) b))), (6, .int (i32 (b : Int)))]) E dX1_fillTimes_89 hl (k := 4) rfl (by decide) rfl (fun ls hl => ?_)
                refine lv_goto (tgt := 23) E.1 E.2.1 dX1_fillTimes_92 (by decide) ?_
                exact ih23 (n + 1) (zs T' 5 (51 * row + n) (mt u (T 0 0) k dy n)) _ _ _ (by omega) (by omega) (fiI_S hT (by omega) rfl) X (lv_sub hl [1, 2, 3, 4, 0] rfl)
              · have hw1 : T' 3 b = tk u (b : Int) (T 0 0) := by rw [hT.1 3 (by decide), a1 3 (by decide)]; exact hI.2.2.2.2.2 b (by omega)
                have hp1 : T' 4 (n - b) = tk k ((n : Int) - (b : Int)) dy := by rw [hT.1 4 (by decide), a2, show (((n - b : Nat)) : Int) = (n : Int) - (b : Int) by omega]
                have ht1 := tk_rng (k := u) (dx := (b : Int)) (dy := T 0 0) (by omega) (by omega) (by omega)
                have ht2 := tk_rng (k := k) (dx := (n : Int) - (b : Int)) (dy := dy) (by omega) (by omega) (by omega)
                have hrr := rmin_rng (f := fm u (T 0 0) k dy n) (lo := 0) (by decide) (n := b) (fun k9 hk9 => (fm_rng (by omega) (by omega) (by omega) (by omega) (by omega) (by omega)).1)
                refine lv_iload E.1 E.2.1 dX1_fillTimes_44 (lv_at hl 5 rfl) ?_
                refine lv_aload_n E.1 E.2.1 dX1_fillTimes_46 rfl (lv_at hl 0 rfl) ?_
                refine z_get E X (lL_0 R cA h T') rfl iX1 3 (by decide) (by decide +kernel) (v := .ref (h 3)) rfl dX1_fillTimes_47 ?_
                refine lv_iload E.1 E.2.1 dX1_fillTimes_50 (lv_at hl 6 rfl) ?_
                refine z_iald E X (lL_3 R cA h T') b (by omega) (by omega) (by decide) dX1_fillTimes_52 ?_
                refine z_top (tk u (b : Int) (T 0 0)) (hw1) ?_
                refine lv_aload_n E.1 E.2.1 dX1_fillTimes_53 rfl (lv_at hl 0 rfl) ?_
                refine z_get E X (lL_0 R cA h T') rfl iX1 4 (by decide) (by decide +kernel) (v := .ref (h 4)) rfl dX1_fillTimes_54 ?_
                refine lv_iload E.1 E.2.1 dX1_fillTimes_57 (lv_at hl 4 rfl) ?_
                refine lv_iload E.1 E.2.1 dX1_fillTimes_59 (lv_at hl 6 rfl) ?_
                refine z_isub E dX1_fillTimes_61 ?_
                refine z_top ((n - b : Nat) : Int) (by omega) ?_
                refine z_iald E X (lL_4 R cA h T') (n - b) (by omega) (by omega) (by decide) dX1_fillTimes_62 ?_
                refine z_top (tk k ((n : Int) - (b : Int)) dy) (hp1) ?_
                refine z_iadd E dX1_fillTimes_63 ?_
                refine z_mmin E ⟨by omega, by omega⟩ ⟨by omega, by omega⟩ (by decide +kernel) (by decide +kernel) (by decide +kernel) (by decide +kernel) hl.1 (by decide) (Nat.le_of_ble_eq_true rfl) ⟨by decide, by decide⟩ dX1_fillTimes_64 ?_
                refine z_top (rmin (fm u (T 0 0) k dy n) (b + 1)) (by rw [rmin_S]; rfl) ?_
                refine lv_istore (lv' := [(5, .int (i32 (rmin (fm u (T 0 0) k dy n) (b + 1)))), (0, .ref (h 0)), (1, .int (i32 (row : Int))), (2, .int (i32 dy)), (3, .int (i32 k)), (4, .int (i32 (n : Int))), (6, .int (i32 (b : Int)))]) E.1 E.2.1 dX1_fillTimes_67 hl (by decide) rfl (fun ls hl => ?_)
                refine z_iinc (lv' := [(6, .int (i32 ((b + 1 : Nat) : Int))), (5, .int (i32 (rmin (fm u (T 0 0) k dy n) (b + 1)))), (0, .ref (h 0)), (1, .int (i32 (row : Int))), (2, .int (i32 dy)), (3, .int (i32 k)), (4, .int (i32 (n : Int)))]) E dX1_fillTimes_69 hl (k := 6) rfl (by decide) rfl (fun ls hl => ?_)
                refine lv_goto (tgt := 37) E.1 E.2.1 dX1_fillTimes_72 (by decide) ?_
                exact ih37 (b + 1) _ _ _ (by omega) (by omega) X (lv_sub hl [2, 3, 4, 5, 6, 1, 0] rfl)
          exact key37 ((n + 1 - 0) + 1) 0 _ _ _ (by omega) (by omega) X (lv_sub hl [2, 3, 4, 5, 6, 1, 0] rfl)
    exact key23 ((51 - 0) + 1) 0 T1 _ _ _ (by omega) (by omega) fiI_0 X (lv_sub hl [1, 2, 3, 4, 0] rfl)
  · exfalso
    omega

abbrev rX1_timeTo : Room := { frames := 2, cells := 0, slots := 0, locals := 51 }
theorem mfb_rng {ex x : Nat} {u w kk dd : Int} (hu : 0 ≤ u ∧ u ≤ 8) (hw : 0 ≤ w ∧ w ≤ 20) (hk : 0 ≤ kk ∧ kk ≤ 8) (hd : 0 ≤ dd ∧ dd ≤ 30) (he : ex ≤ 50) (hx : x ≤ 50) : 0 ≤ minb (fb ex x u w kk dd) 50 ∧ minb (fb ex x u w kk dd) 50 ≤ 2046 := ⟨minb_ge (fun _ hb => (fb_rng hu hw hk hd he hx hb).1), Int.le_trans (minb_le (k := 0) (Nat.zero_le _)) (fb_rng hu hw hk hd he hx (Nat.zero_le _)).2⟩
set_option maxHeartbeats 4000000 in
set_option maxRecDepth 100000 in
theorem L_timeTo (l : Launch) (D : va_G) (cA : Nat → ClassId) (B0 : Nat) (R : zL) (h : Nat → Nat) (T : zS) (u : Int) (hu : 1 ≤ u ∧ u ≤ 8) (hI : LI T u) (ex x y : Int) (hex : 0 ≤ ex ∧ ex ≤ 50) (hx : 0 ≤ x ∧ x ≤ 50) (hy : T 0 0 ≤ y ∧ y ≤ T 0 0 + T 1 0) : zM l yX1_timeTo wsX1_timeTo rX1_timeTo [.ref (h 0), .int (i32 ex), .int (i32 x), .int (i32 y)] D cA B0 (zW D B0 (zl (layL cA h T) R)) (fun v H => v = some (.int (i32 (minb (fb ex.toNat x.toNat u (T 0 0) (T 2 0) (y - T 0 0)) 50))) ∧ ∃ T' : zS, LI T' u ∧ (∀ q : Nat, q ≠ 4 → q ≠ 5 → q ≠ 6 → T' q = T q) ∧ zW D B0 (zl (layL cA h T') R) H) := by
  refine z_met (cc := cX1_timeTo) (maxL := 6) (ret := (some .int)) (by decide) rfl (Nat.le_of_ble_eq_true rfl) ?_
  intro p e s m args below meth c ls Q hQ E hP hB hS hl
  have hl : lv_has ls 6 [(0, .ref (h 0)), (1, .int (i32 ex)), (2, .int (i32 x)), (3, .int (i32 y))] := hl
  have iX1 : ∀ w ∈ u_ws RX1 TX1 7, w ∈ wsX1_timeTo := by decide +kernel
  have X : zX D B0 (zl (layL cA h T) R) s.heap s.heap [] := ⟨hP, hS⟩
  have hI9 := hI
  obtain ⟨c0, c1, c2, -, -, -⟩ := hI9
  obtain ⟨e9, rfl⟩ : ∃ e9 : Nat, ex = (e9 : Int) := ⟨ex.toNat, by omega⟩
  obtain ⟨x9, rfl⟩ : ∃ x9 : Nat, x = (x9 : Int) := ⟨x.toNat, by omega⟩
  refine lv_iload_n E.1 E.2.1 dX1_timeTo_0 rfl (lv_at hl 3 rfl) ?_
  refine lv_aload_n E.1 E.2.1 dX1_timeTo_1 rfl (lv_at hl 0 rfl) ?_
  refine z_get E X (lL_0 R cA h T) rfl iX1 0 (by decide) (by decide +kernel) (v := .int (i32 (T 0 0))) rfl dX1_timeTo_2 ?_
  refine z_isub E dX1_timeTo_5 ?_
  obtain ⟨row, hrow⟩ : ∃ row : Nat, y - T 0 0 = (row : Int) := ⟨(y - T 0 0).toNat, by omega⟩
  refine z_top (row : Int) (hrow) ?_
  refine lv_istore (lv' := [(4, .int (i32 (row : Int))), (0, .ref (h 0)), (1, .int (i32 (e9 : Int))), (2, .int (i32 (x9 : Int))), (3, .int (i32 y))]) E.1 E.2.1 dX1_timeTo_6 hl (by decide) rfl (fun ls hl => ?_)
  refine lv_iload_n E.1 E.2.1 dX1_timeTo_8 rfl (lv_at hl 2 rfl) ?_
  refine lv_iload_n E.1 E.2.1 dX1_timeTo_9 rfl (lv_at hl 3 rfl) ?_
  refine z_isub E dX1_timeTo_10 ?_
  refine z_mabs E ⟨by omega, by omega⟩ (by decide +kernel) (by decide +kernel) (by decide +kernel) (by decide +kernel) hl.1 (by decide) (Nat.le_of_ble_eq_true rfl) ⟨by decide, by decide⟩ dX1_timeTo_11 ?_
  have hz1 := zabs_rng (a := (e9 : Int) - (x9 : Int)) (m := 50) (by omega) (by omega)
  obtain ⟨ad, had⟩ : ∃ ad : Nat, ad = (zabs ((e9 : Int) - (x9 : Int))).toNat := ⟨_, rfl⟩
  refine z_top (ad : Int) (by omega) ?_
  have hrd := hI.2.2.2.1 row (by omega)
  refine lv_istore (lv' := [(5, .int (i32 (ad : Int))), (4, .int (i32 (row : Int))), (0, .ref (h 0)), (1, .int (i32 (e9 : Int))), (2, .int (i32 (x9 : Int))), (3, .int (i32 y))]) E.1 E.2.1 dX1_timeTo_14 hl (by decide) rfl (fun ls hl => ?_)
  refine lv_iload E.1 E.2.1 dX1_timeTo_16 (lv_at hl 1 rfl) ?_
  refine z_iconst E dX1_timeTo_18 ?_
  refine z_bipush E dX1_timeTo_19 (by decide +kernel) ?_
  refine z_callN (As := [.int (i32 (row : Int)), .int (i32 0), .int (i32 30)]) (rest := []) (n := 3) E X (c_outside l D cA B0 _ (row : Int) 0 30 ⟨by omega, by omega⟩ ⟨by omega, by omega⟩ ⟨by omega, by omega⟩) gX1_timeTo_X5_outside_n43 rfl (by decide +kernel) (by decide +kernel) (by decide +kernel) ⟨by decide, by decide⟩ rfl hl.1 rfl (Nat.le_of_ble_eq_true rfl) dX1_timeTo_21 ⟨by decide, by decide⟩ rfl 0 0 ⟨rfl, rfl⟩ (fun v H locs hv hS_1 => ?_)
  obtain ⟨hH, z_2, rfl, ez_2⟩ := hv
  subst hH
  replace X := X.same hS_1
  refine z_fne E 38 ⟨by omega, by omega⟩ dX1_timeTo_24 (by decide) (fun h24_3 => ?_) (fun h24_3 => ?_)
  · exfalso
    omega
  · refine lv_iload E.1 E.2.1 dX1_timeTo_27 (lv_at hl 0 rfl) ?_
    refine z_iconst E dX1_timeTo_29 ?_
    refine z_bipush E dX1_timeTo_30 (by decide +kernel) ?_
    refine z_callN (As := [.int (i32 (ad : Int)), .int (i32 0), .int (i32 50)]) (rest := []) (n := 3) E X (c_outside l D cA B0 _ (ad : Int) 0 50 ⟨by omega, by omega⟩ ⟨by omega, by omega⟩ ⟨by omega, by omega⟩) gX1_timeTo_X5_outside_n43 rfl (by decide +kernel) (by decide +kernel) (by decide +kernel) ⟨by decide, by decide⟩ rfl hl.1 rfl (Nat.le_of_ble_eq_true rfl) dX1_timeTo_32 ⟨by decide, by decide⟩ rfl 0 0 ⟨rfl, rfl⟩ (fun v H locs hv hS_4 => ?_)
    obtain ⟨hH, z_5, rfl, ez_5⟩ := hv
    subst hH
    replace X := X.same hS_4
    refine z_feq E 41 ⟨by omega, by omega⟩ dX1_timeTo_35 (by decide) (fun h35_6 => ?_) (fun h35_6 => ?_)
    · refine lv_aload_n E.1 E.2.1 dX1_timeTo_41 rfl (lv_at hl 2 rfl) ?_
      refine z_get E X (lL_0 R cA h T) rfl iX1 6 (by decide) (by decide +kernel) (v := .ref (h 6)) rfl dX1_timeTo_42 ?_
      refine lv_iload E.1 E.2.1 dX1_timeTo_45 (lv_at hl 1 rfl) ?_
      refine z_zald E X (lL_6 R cA h T) row (by omega) (by omega) (by decide) dX1_timeTo_47 ?_
      refine z_fne E 63 ⟨by omega, by omega⟩ dX1_timeTo_48 (by decide) (fun h48_7 => ?_) (fun h48_7 => ?_)
      · have hJ : LI T u ∧ LR T row u (T 2 0) (row : Int) ∧ (∀ q : Nat, q ≠ 4 → q ≠ 5 → q ≠ 6 → T q = T q) := ⟨hI, hI.2.2.2.2.1 row (by omega) (by omega), fun _ _ _ _ => rfl⟩
        have e0 : T 0 0 = T 0 0 := by rw [hJ.2.2 0 (by decide) (by decide) (by decide)]
        have hlr := hJ.2.1 ad (by omega)
        rw [e0] at hlr
        refine lv_aload_n E.1 E.2.1 dX1_timeTo_63 rfl (lv_at hl 2 rfl) ?_
        refine z_get E X (lL_0 R cA h T) rfl iX1 5 (by decide) (by decide +kernel) (v := .ref (h 5)) rfl dX1_timeTo_64 ?_
        refine lv_iload E.1 E.2.1 dX1_timeTo_67 (lv_at hl 1 rfl) ?_
        refine z_bipush E dX1_timeTo_69 (by decide +kernel) ?_
        refine z_imul E dX1_timeTo_71 ?_
        refine lv_iload E.1 E.2.1 dX1_timeTo_72 (lv_at hl 0 rfl) ?_
        refine z_iadd E dX1_timeTo_74 ?_
        refine z_top ((51 * row + ad : Nat) : Int) (by omega) ?_
        refine z_iald E X (lL_5 R cA h T) (51 * row + ad) (by omega) (by omega) (by decide) dX1_timeTo_75 ?_
        refine z_top (minb (fb e9 x9 u (T 0 0) (T 2 0) (y - T 0 0)) 50) (by rw [hlr, hrow, had]; exact mt_fb (by omega) (by omega) (by omega) (by omega) (by omega) (by omega)) ?_
        exact z_ret E X hQ (⟨rfl, T, hJ.1, hJ.2.2, X.1⟩) dX1_timeTo_76
      · refine lv_aload_n E.1 E.2.1 dX1_timeTo_51 rfl (lv_at hl 2 rfl) ?_
        refine lv_iload E.1 E.2.1 dX1_timeTo_52 (lv_at hl 1 rfl) ?_
        refine lv_iload E.1 E.2.1 dX1_timeTo_54 (lv_at hl 1 rfl) ?_
        refine lv_aload_n E.1 E.2.1 dX1_timeTo_56 rfl (lv_at hl 2 rfl) ?_
        refine z_get E X (lL_0 R cA h T) rfl iX1 2 (by decide) (by decide +kernel) (v := .int (i32 (T 2 0))) rfl dX1_timeTo_57 ?_
        refine z_callV (As := [.int (i32 (row : Int)), .int (i32 (row : Int)), .int (i32 (T 2 0))]) (rest := []) (n := 3) E X (lL_0 R cA h T) rfl (L_fillTimes l D cA B0 R h T u hu hI row (row : Int) (T 2 0) (by omega) (by omega) (by omega)) gX1_timeTo_X1_fillTimes rfl (by decide +kernel) ⟨by decide, by decide⟩ rfl hl.1 rfl (Nat.le_of_ble_eq_true rfl) dX1_timeTo_60 ⟨by decide, by decide⟩ X.1 0 0 ⟨rfl, rfl⟩ (fun v H locs hv hS_8 => ?_)
        obtain ⟨rfl, T_9, hT_9, hw⟩ := hv
        replace X : zX D B0 (zl (layL cA h T_9) R) s.heap H locs := ⟨hw, hS_8⟩
        have hL := LI_fill hI hT_9 (Or.inr ⟨by omega, rfl, rfl⟩)
        have hJ : LI T_9 u ∧ LR T_9 row u (T 2 0) (row : Int) ∧ (∀ q : Nat, q ≠ 4 → q ≠ 5 → q ≠ 6 → T_9 q = T q) := ⟨hL.1, hL.2.2, hT_9.1⟩
        have e0 : T_9 0 0 = T 0 0 := by rw [hJ.2.2 0 (by decide) (by decide) (by decide)]
        have hlr := hJ.2.1 ad (by omega)
        rw [e0] at hlr
        refine lv_aload_n E.1 E.2.1 dX1_timeTo_63 rfl (lv_at hl 2 rfl) ?_
        refine z_get E X (lL_0 R cA h T_9) rfl iX1 5 (by decide) (by decide +kernel) (v := .ref (h 5)) rfl dX1_timeTo_64 ?_
        refine lv_iload E.1 E.2.1 dX1_timeTo_67 (lv_at hl 1 rfl) ?_
        refine z_bipush E dX1_timeTo_69 (by decide +kernel) ?_
        refine z_imul E dX1_timeTo_71 ?_
        refine lv_iload E.1 E.2.1 dX1_timeTo_72 (lv_at hl 0 rfl) ?_
        refine z_iadd E dX1_timeTo_74 ?_
        refine z_top ((51 * row + ad : Nat) : Int) (by omega) ?_
        refine z_iald E X (lL_5 R cA h T_9) (51 * row + ad) (by omega) (by omega) (by decide) dX1_timeTo_75 ?_
        refine z_top (minb (fb e9 x9 u (T 0 0) (T 2 0) (y - T 0 0)) 50) (by rw [hlr, hrow, had]; exact mt_fb (by omega) (by omega) (by omega) (by omega) (by omega) (by omega)) ?_
        exact z_ret E X hQ (⟨rfl, T_9, hJ.1, hJ.2.2, X.1⟩) dX1_timeTo_76
    · exfalso
      omega

abbrev rX1_bendTo : Room := { frames := 3, cells := 0, slots := 0, locals := 76 }
set_option maxHeartbeats 4000000 in
set_option maxRecDepth 100000 in
theorem L_bendTo (l : Launch) (D : va_G) (cA : Nat → ClassId) (B0 : Nat) (R : zL) (h : Nat → Nat) (T : zS) (u : Int) (hu : 1 ≤ u ∧ u ≤ 8) (hI : LI T u) (ex x y : Int) (hex : 0 ≤ ex ∧ ex ≤ 50) (hx : 0 ≤ x ∧ x ≤ 50) (hy : T 0 0 ≤ y ∧ y ≤ T 0 0 + T 1 0) : zM l yX1_bendTo wsX1_bendTo rX1_bendTo [.ref (h 0), .int (i32 ex), .int (i32 x), .int (i32 y)] D cA B0 (zW D B0 (zl (layL cA h T) R)) (fun v H => v = some (.int (i32 (argb (fb ex.toNat x.toNat u (T 0 0) (T 2 0) (y - T 0 0)) 50))) ∧ ∃ T' : zS, LI T' u ∧ (∀ q : Nat, q ≠ 4 → q ≠ 5 → q ≠ 6 → T' q = T q) ∧ zW D B0 (zl (layL cA h T') R) H) := by
  refine z_met (cc := cX1_bendTo) (maxL := 9) (ret := (some .int)) (by decide) rfl (Nat.le_of_ble_eq_true rfl) ?_
  intro p e s m args below meth c ls Q hQ E hP hB hS hl
  have hl : lv_has ls 9 [(0, .ref (h 0)), (1, .int (i32 ex)), (2, .int (i32 x)), (3, .int (i32 y))] := hl
  have iX1 : ∀ w ∈ u_ws RX1 TX1 7, w ∈ wsX1_bendTo := by decide +kernel
  have X : zX D B0 (zl (layL cA h T) R) s.heap s.heap [] := ⟨hP, hS⟩
  have hI9 := hI
  obtain ⟨c0, c1, c2, -, -, -⟩ := hI9
  obtain ⟨e9, rfl⟩ : ∃ e9 : Nat, ex = (e9 : Int) := ⟨ex.toNat, by omega⟩
  obtain ⟨x9, rfl⟩ : ∃ x9 : Nat, x = (x9 : Int) := ⟨x.toNat, by omega⟩
  refine lv_aload_n E.1 E.2.1 dX1_bendTo_0 rfl (lv_at hl 0 rfl) ?_
  refine lv_iload_n E.1 E.2.1 dX1_bendTo_1 rfl (lv_at hl 1 rfl) ?_
  refine lv_iload_n E.1 E.2.1 dX1_bendTo_2 rfl (lv_at hl 2 rfl) ?_
  refine lv_iload_n E.1 E.2.1 dX1_bendTo_3 rfl (lv_at hl 3 rfl) ?_
  refine z_callV (As := [.int (i32 (e9 : Int)), .int (i32 (x9 : Int)), .int (i32 y)]) (rest := []) (n := 3) E X (lL_0 R cA h T) rfl (L_timeTo l D cA B0 R h T u hu hI (e9 : Int) (x9 : Int) y (by omega) (by omega) (by omega)) gX1_bendTo_X1_timeTo rfl (by decide +kernel) ⟨by decide, by decide⟩ rfl hl.1 rfl (Nat.le_of_ble_eq_true rfl) dX1_bendTo_4 ⟨by decide, by decide⟩ X.1 0 0 ⟨rfl, rfl⟩ (fun v H locs hv hS_1 => ?_)
  obtain ⟨rfl, T_2, hIT_2, hsT_2, hw⟩ := hv
  replace X : zX D B0 (zl (layL cA h T_2) R) s.heap H locs := ⟨hw, hS_1⟩
  refine z_top (minb (fb e9 x9 u (T 0 0) (T 2 0) (y - T 0 0)) 50) rfl ?_
  have hmr := mfb_rng (ex := e9) (x := x9) (u := u) (w := T 0 0) (kk := T 2 0) (dd := y - T 0 0) (by omega) (by omega) (by omega) (by omega) (by omega) (by omega)
  have e0 : T_2 0 0 = T 0 0 := by rw [hsT_2 0 (by decide) (by decide) (by decide)]
  have e2 : T_2 2 0 = T 2 0 := by rw [hsT_2 2 (by decide) (by decide) (by decide)]
  refine lv_istore (lv' := [(4, .int (i32 (minb (fb e9 x9 u (T 0 0) (T 2 0) (y - T 0 0)) 50))), (0, .ref (h 0)), (1, .int (i32 (e9 : Int))), (2, .int (i32 (x9 : Int))), (3, .int (i32 y))]) E.1 E.2.1 dX1_bendTo_7 hl (by decide) rfl (fun ls hl => ?_)
  refine lv_aload_n E.1 E.2.1 dX1_bendTo_9 rfl (lv_at hl 1 rfl) ?_
  refine z_get E X (lL_0 R cA h T_2) rfl iX1 4 (by decide) (by decide +kernel) (v := .ref (h 4)) rfl dX1_bendTo_10 ?_
  refine lv_iload_n E.1 E.2.1 dX1_bendTo_13 rfl (lv_at hl 4 rfl) ?_
  refine lv_aload_n E.1 E.2.1 dX1_bendTo_14 rfl (lv_at hl 1 rfl) ?_
  refine z_get E X (lL_0 R cA h T_2) rfl iX1 0 (by decide) (by decide +kernel) (v := .int (i32 (T_2 0 0))) rfl dX1_bendTo_15 ?_
  refine z_isub E dX1_bendTo_18 ?_
  refine z_top (y - T 0 0) (by rw [e0]) ?_
  refine lv_aload_n E.1 E.2.1 dX1_bendTo_19 rfl (lv_at hl 1 rfl) ?_
  refine z_get E X (lL_0 R cA h T_2) rfl iX1 2 (by decide) (by decide +kernel) (v := .int (i32 (T_2 2 0))) rfl dX1_bendTo_20 ?_
  refine z_top (T 2 0) (e2) ?_
  refine z_callJ (As := [.ref (h 4), .int (i32 (y - T 0 0)), .int (i32 (T 2 0))]) (rest := []) (n := 3) E X (L_fillTicks l D cA B0 (zl (layL cA h T_2) R) 3 0 (h 4) (T_2 4) (y - T 0 0) (T 2 0) (lL_4 R cA h T_2) (by omega) (by omega)) gX1_bendTo_X1_fillTicks rfl (by decide +kernel) ⟨by decide, by decide⟩ rfl hl.1 rfl (Nat.le_of_ble_eq_true rfl) dX1_bendTo_23 ⟨by decide, by decide⟩ X.1 0 0 ⟨rfl, rfl⟩ (fun v H locs hv hS_3 => ?_)
  obtain ⟨rfl, hw⟩ := hv
  replace X : zX D B0 (zl (layL cA h (zf T_2 4 (fun j => tk (T 2 0) (j : Int) (y - T 0 0)))) R) s.heap H locs := lf_4 ⟨hw, hS_3⟩
  obtain ⟨T2, eT2⟩ : ∃ T2 : zS, T2 = zf T_2 4 (fun j => tk (T 2 0) (j : Int) (y - T 0 0)) := ⟨_, rfl⟩
  rw [← eT2] at X
  have a1 : ∀ q : Nat, q ≠ 4 → T2 q = T_2 q := fun q hq => by rw [eT2, zf_ne hq]
  have a2 : ∀ j : Nat, T2 4 j = tk (T 2 0) (j : Int) (y - T 0 0) := fun j => by rw [eT2, zf_eq]
  have hI2 : LI T2 u := LI_4 hIT_2 a1
  have hs2 : ∀ q : Nat, q ≠ 4 → q ≠ 5 → q ≠ 6 → T2 q = T q := fun q c4 c5 c6 => by rw [a1 q c4]; exact hsT_2 q c4 c5 c6
  have hw0 : ∀ d : Nat, d < 51 → T2 3 d = tk u (d : Int) (T 0 0) := fun d hd => by have := hI2.2.2.2.2.2 d hd; rw [hs2 0 (by decide) (by decide) (by decide)] at this; exact this
  refine z_iconst E dX1_bendTo_26 ?_
  refine z_top (0 : Int) (rfl) ?_
  refine lv_istore (lv' := [(5, .int (i32 (0 : Int))), (4, .int (i32 (minb (fb e9 x9 u (T 0 0) (T 2 0) (y - T 0 0)) 50))), (0, .ref (h 0)), (1, .int (i32 (e9 : Int))), (2, .int (i32 (x9 : Int))), (3, .int (i32 y))]) E.1 E.2.1 dX1_bendTo_27 hl (by decide) rfl (fun ls hl => ?_)
  have key29 : ∀ (N : Nat) (b : Nat) (H : Heap) (locs : List Loc) (ls : Array Slot), (51 - b) < N → (b ≤ 51) → (∀ j : Nat, j < b → ¬ fb e9 x9 u (T 0 0) (T 2 0) (y - T 0 0) j = minb (fb e9 x9 u (T 0 0) (T 2 0) (y - T 0 0)) 50) → zX D B0 (zl (layL cA h T2) R) s.heap H locs → lv_has ls 9 [(0, .ref (h 0)), (1, .int (i32 (e9 : Int))), (2, .int (i32 (x9 : Int))), (3, .int (i32 y)), (4, .int (i32 (minb (fb e9 x9 u (T 0 0) (T 2 0) (y - T 0 0)) 50))), (5, .int (i32 (b : Int)))] → W p l e rX1_bendTo s m args below meth c H locs 0 0 Q (F0 m 29 ls []) := by
    intro N
    induction N with
    | zero => intros; omega
    | succ N ih29 =>
      intro b H locs ls hN hb hno X hl
      refine lv_iload E.1 E.2.1 dX1_bendTo_29 (lv_at hl 5 rfl) ?_
      refine z_bipush E dX1_bendTo_31 (by decide +kernel) ?_
      refine z_cgt E 115 ⟨by omega, by omega⟩ ⟨by omega, by omega⟩ dX1_bendTo_33 (by decide) (fun h33_4 => ?_) (fun h33_4 => ?_)
      · obtain ⟨k9, hk1, hk2, -⟩ := minb_is (f := fb e9 x9 u (T 0 0) (T 2 0) (y - T 0 0)) 50
        exact absurd hk2 (hno k9 (by omega))
      · have hbr := fb_rng (ex := e9) (x := x9) (b := b) (u := u) (w := T 0 0) (kk := T 2 0) (dd := y - T 0 0) (by omega) (by omega) (by omega) (by omega) (by omega) (by omega) (by omega)
        have hw1 := leg_w (b := b) (ex := e9) hw0 (by omega) (by omega)
        have hp1 := leg_p (b := b) (x := x9) a2 (by omega) (by omega)
        have hz1 := zabs_rng (a := (e9 : Int) - (b : Int)) (m := 50) (by omega) (by omega)
        have hz2 := zabs_rng (a := (b : Int) - (x9 : Int)) (m := 50) (by omega) (by omega)
        have ht1 := tk_rng (k := u) (dx := (b : Int) - (e9 : Int)) (dy := T 0 0) (by omega) (by omega) (by omega)
        have ht2 := tk_rng (k := T 2 0) (dx := (x9 : Int) - (b : Int)) (dy := y - T 0 0) (by omega) (by omega) (by omega)
        refine lv_iload_n E.1 E.2.1 dX1_bendTo_36 rfl (lv_at hl 1 rfl) ?_
        refine lv_iload E.1 E.2.1 dX1_bendTo_37 (lv_at hl 5 rfl) ?_
        refine z_isub E dX1_bendTo_39 ?_
        refine z_mabs E ⟨by omega, by omega⟩ (by decide +kernel) (by decide +kernel) (by decide +kernel) (by decide +kernel) hl.1 (by decide) (Nat.le_of_ble_eq_true rfl) ⟨by decide, by decide⟩ dX1_bendTo_40 ?_
        refine lv_istore (lv' := [(6, .int (i32 (zabs ((e9 : Int) - (b : Int))))), (0, .ref (h 0)), (1, .int (i32 (e9 : Int))), (2, .int (i32 (x9 : Int))), (3, .int (i32 y)), (4, .int (i32 (minb (fb e9 x9 u (T 0 0) (T 2 0) (y - T 0 0)) 50))), (5, .int (i32 (b : Int)))]) E.1 E.2.1 dX1_bendTo_43 hl (by decide) rfl (fun ls hl => ?_)
        refine lv_iload E.1 E.2.1 dX1_bendTo_45 (lv_at hl 6 rfl) ?_
        refine lv_iload_n E.1 E.2.1 dX1_bendTo_47 rfl (lv_at hl 3 rfl) ?_
        refine z_isub E dX1_bendTo_48 ?_
        refine z_mabs E ⟨by omega, by omega⟩ (by decide +kernel) (by decide +kernel) (by decide +kernel) (by decide +kernel) hl.1 (by decide) (Nat.le_of_ble_eq_true rfl) ⟨by decide, by decide⟩ dX1_bendTo_49 ?_
        refine lv_istore (lv' := [(7, .int (i32 (zabs ((b : Int) - (x9 : Int))))), (6, .int (i32 (zabs ((e9 : Int) - (b : Int))))), (0, .ref (h 0)), (1, .int (i32 (e9 : Int))), (2, .int (i32 (x9 : Int))), (3, .int (i32 y)), (4, .int (i32 (minb (fb e9 x9 u (T 0 0) (T 2 0) (y - T 0 0)) 50))), (5, .int (i32 (b : Int)))]) E.1 E.2.1 dX1_bendTo_52 hl (by decide) rfl (fun ls hl => ?_)
        refine lv_iload E.1 E.2.1 dX1_bendTo_54 (lv_at hl 1 rfl) ?_
        refine lv_aload_n E.1 E.2.1 dX1_bendTo_56 rfl (lv_at hl 2 rfl) ?_
        refine z_get E X (lL_0 R cA h T2) rfl iX1 3 (by decide) (by decide +kernel) (v := .ref (h 3)) rfl dX1_bendTo_57 ?_
        refine z_alen (z := 51) E X 0 (lL_3 R cA h T2) rfl (by omega) dX1_bendTo_60 ?_
        refine z_cge E 78 ⟨by omega, by omega⟩ ⟨by omega, by omega⟩ dX1_bendTo_61 (by decide) (fun h61_5 => ?_) (fun h61_5 => ?_)
        · exfalso
          omega
        · refine lv_iload E.1 E.2.1 dX1_bendTo_64 (lv_at hl 0 rfl) ?_
          refine lv_aload_n E.1 E.2.1 dX1_bendTo_66 rfl (lv_at hl 2 rfl) ?_
          refine z_get E X (lL_0 R cA h T2) rfl iX1 4 (by decide) (by decide +kernel) (v := .ref (h 4)) rfl dX1_bendTo_67 ?_
          refine z_alen (z := 51) E X 0 (lL_4 R cA h T2) rfl (by omega) dX1_bendTo_70 ?_
          refine z_cge E 78 ⟨by omega, by omega⟩ ⟨by omega, by omega⟩ dX1_bendTo_71 (by decide) (fun h71_6 => ?_) (fun h71_6 => ?_)
          · exfalso
            omega
          · refine z_iconst E dX1_bendTo_74 ?_
            refine lv_goto (tgt := 79) E.1 E.2.1 dX1_bendTo_75 (by decide) ?_
            refine lv_istore (lv' := [(8, .int (i32 1)), (7, .int (i32 (zabs ((b : Int) - (x9 : Int))))), (6, .int (i32 (zabs ((e9 : Int) - (b : Int))))), (0, .ref (h 0)), (1, .int (i32 (e9 : Int))), (2, .int (i32 (x9 : Int))), (3, .int (i32 y)), (4, .int (i32 (minb (fb e9 x9 u (T 0 0) (T 2 0) (y - T 0 0)) 50))), (5, .int (i32 (b : Int)))]) E.1 E.2.1 dX1_bendTo_79 hl (by decide) rfl (fun ls hl => ?_)
            refine lv_iload E.1 E.2.1 dX1_bendTo_81 (lv_at hl 0 rfl) ?_
            refine z_feq E 109 ⟨by omega, by omega⟩ dX1_bendTo_83 (by decide) (fun h83_7 => ?_) (fun h83_7 => ?_)
            · exact absurd h83_7 (by decide)
            · refine lv_aload_n E.1 E.2.1 dX1_bendTo_86 rfl (lv_at hl 3 rfl) ?_
              refine z_get E X (lL_0 R cA h T2) rfl iX1 3 (by decide) (by decide +kernel) (v := .ref (h 3)) rfl dX1_bendTo_87 ?_
              refine lv_iload E.1 E.2.1 dX1_bendTo_90 (lv_at hl 2 rfl) ?_
              refine z_top (((zabs ((e9 : Int) - (b : Int))).toNat : Nat) : Int) (by omega) ?_
              refine z_iald E X (lL_3 R cA h T2) ((zabs ((e9 : Int) - (b : Int))).toNat) (by omega) (by omega) (by decide) dX1_bendTo_92 ?_
              refine z_top (tk u ((b : Int) - (e9 : Int)) (T 0 0)) (hw1) ?_
              refine lv_aload_n E.1 E.2.1 dX1_bendTo_93 rfl (lv_at hl 3 rfl) ?_
              refine z_get E X (lL_0 R cA h T2) rfl iX1 4 (by decide) (by decide +kernel) (v := .ref (h 4)) rfl dX1_bendTo_94 ?_
              refine lv_iload E.1 E.2.1 dX1_bendTo_97 (lv_at hl 1 rfl) ?_
              refine z_top (((zabs ((b : Int) - (x9 : Int))).toNat : Nat) : Int) (by omega) ?_
              refine z_iald E X (lL_4 R cA h T2) ((zabs ((b : Int) - (x9 : Int))).toNat) (by omega) (by omega) (by decide) dX1_bendTo_99 ?_
              refine z_top (tk (T 2 0) ((x9 : Int) - (b : Int)) (y - T 0 0)) (hp1) ?_
              refine z_iadd E dX1_bendTo_100 ?_
              refine z_top (fb e9 x9 u (T 0 0) (T 2 0) (y - T 0 0) b) (rfl) ?_
              refine lv_iload E.1 E.2.1 dX1_bendTo_101 (lv_at hl 7 rfl) ?_
              refine z_cne E 109 ⟨by omega, by omega⟩ ⟨by omega, by omega⟩ dX1_bendTo_103 (by decide) (fun h103_8 => ?_) (fun h103_8 => ?_)
              · have hnb := h103_8
                refine z_iinc (lv' := [(5, .int (i32 ((b + 1 : Nat) : Int))), (8, .int (i32 1)), (7, .int (i32 (zabs ((b : Int) - (x9 : Int))))), (6, .int (i32 (zabs ((e9 : Int) - (b : Int))))), (0, .ref (h 0)), (1, .int (i32 (e9 : Int))), (2, .int (i32 (x9 : Int))), (3, .int (i32 y)), (4, .int (i32 (minb (fb e9 x9 u (T 0 0) (T 2 0) (y - T 0 0)) 50)))]) E dX1_bendTo_109 hl (k := 8) rfl (by decide) rfl (fun ls hl => ?_)
                refine lv_goto (tgt := 29) E.1 E.2.1 dX1_bendTo_112 (by decide) ?_
                exact ih29 (b + 1) _ _ _ (by omega) (by omega) (fun j hj => by rcases Nat.lt_or_ge j b with q | q; exact hno j q; rw [show j = b by omega]; exact hnb) X (lv_sub hl [4, 5, 6, 7, 8, 0] rfl)
              · have h71 := h103_8
                refine lv_iload E.1 E.2.1 dX1_bendTo_106 (lv_at hl 8 rfl) ?_
                have har := argb_first (f := fb e9 x9 u (T 0 0) (T 2 0) (y - T 0 0)) (N := 50) (b := b) (by omega) h71 hno
                exact z_ret E X hQ (⟨congrArg (fun w => some (Value.int (i32 w))) har.symm, T2, hI2, hs2, X.1⟩) dX1_bendTo_108
  exact key29 ((51 - 0) + 1) 0 _ _ _ (by omega) (by omega) (fun j hj => absurd hj (Nat.not_lt_zero j)) X (lv_sub hl [2, 3, 4, 5, 1, 0] rfl)

abbrev rX1_wallTime : Room := { frames := 2, cells := 0, slots := 0, locals := 51 }
def wlf (e1 e2 : Nat) (u w kk dd : Int) (x : Nat) : Int := minb (fb e1 x u w kk dd) 50 + minb (fb e2 x u w kk dd) 50
set_option maxHeartbeats 4000000 in
set_option maxRecDepth 100000 in
theorem L_wallTime (l : Launch) (D : va_G) (cA : Nat → ClassId) (B0 : Nat) (R : zL) (h : Nat → Nat) (T : zS) (u : Int) (hu : 1 ≤ u ∧ u ≤ 8) (hI : LI T u) (e1 e2 : Nat) (v1 : Int) (he1 : e1 ≤ 50) (he2 : e2 ≤ 50) (hv1 : 1 ≤ v1 ∧ v1 ≤ 8) : zM l yX1_wallTime wsX1_wallTime rX1_wallTime [.ref (h 0), .int (i32 (e1 : Int)), .int (i32 (e2 : Int)), .int (i32 v1)] D cA B0 (zW D B0 (zl (layL cA h T) R)) (fun v H => v = some (.int (i32 (minb (wlf e1 e2 u (T 0 0) v1 (T 1 0)) 50))) ∧ ∃ T' : zS, LI T' u ∧ (∀ q : Nat, q ≠ 4 → q ≠ 5 → q ≠ 6 → T' q = T q) ∧ zW D B0 (zl (layL cA h T') R) H) := by
  refine z_met (cc := cX1_wallTime) (maxL := 8) (ret := (some .int)) (by decide) rfl (Nat.le_of_ble_eq_true rfl) ?_
  intro p e s m args below meth c ls Q hQ E hP hB hS hl
  have hl : lv_has ls 8 [(0, .ref (h 0)), (1, .int (i32 (e1 : Int))), (2, .int (i32 (e2 : Int))), (3, .int (i32 v1))] := hl
  have iX1 : ∀ w ∈ u_ws RX1 TX1 7, w ∈ wsX1_wallTime := by decide +kernel
  have X : zX D B0 (zl (layL cA h T) R) s.heap s.heap [] := ⟨hP, hS⟩
  have hI9 := hI
  obtain ⟨c0, c1, c2, -, -, -⟩ := hI9
  refine lv_aload_n E.1 E.2.1 dX1_wallTime_0 rfl (lv_at hl 0 rfl) ?_
  refine z_bipush E dX1_wallTime_1 (by decide +kernel) ?_
  refine z_top (31 : Int) (rfl) ?_
  refine lv_aload_n E.1 E.2.1 dX1_wallTime_3 rfl (lv_at hl 0 rfl) ?_
  refine z_get E X (lL_0 R cA h T) rfl iX1 1 (by decide) (by decide +kernel) (v := .int (i32 (T 1 0))) rfl dX1_wallTime_4 ?_
  refine lv_iload_n E.1 E.2.1 dX1_wallTime_7 rfl (lv_at hl 3 rfl) ?_
  refine z_callV (As := [.int (i32 (31 : Int)), .int (i32 (T 1 0)), .int (i32 v1)]) (rest := []) (n := 3) E X (lL_0 R cA h T) rfl (L_fillTimes l D cA B0 R h T u hu hI 31 (T 1 0) v1 (by omega) (by omega) (by omega)) gX1_wallTime_X1_fillTimes rfl (by decide +kernel) ⟨by decide, by decide⟩ rfl hl.1 rfl (Nat.le_of_ble_eq_true rfl) dX1_wallTime_8 ⟨by decide, by decide⟩ X.1 0 0 ⟨rfl, rfl⟩ (fun v H locs hv hS_1 => ?_)
  obtain ⟨rfl, T_2, hT_2, hw⟩ := hv
  replace X : zX D B0 (zl (layL cA h T_2) R) s.heap H locs := ⟨hw, hS_1⟩
  refine z_ldc (v := 2147483647) (z := 2147483647) E (by decide +kernel) (by decide +kernel) dX1_wallTime_11 ?_
  refine z_top (rmin (wlf e1 e2 u (T 0 0) v1 (T 1 0)) 0) (rfl) ?_
  refine lv_istore (lv' := [(4, .int (i32 (rmin (wlf e1 e2 u (T 0 0) v1 (T 1 0)) 0))), (0, .ref (h 0)), (1, .int (i32 (e1 : Int))), (2, .int (i32 (e2 : Int))), (3, .int (i32 v1))]) E.1 E.2.1 dX1_wallTime_13 hl (by decide) rfl (fun ls hl => ?_)
  refine z_iconst E dX1_wallTime_15 ?_
  refine z_top (0 : Int) (rfl) ?_
  refine lv_istore (lv' := [(5, .int (i32 (0 : Int))), (4, .int (i32 (rmin (wlf e1 e2 u (T 0 0) v1 (T 1 0)) 0))), (0, .ref (h 0)), (1, .int (i32 (e1 : Int))), (2, .int (i32 (e2 : Int))), (3, .int (i32 v1))]) E.1 E.2.1 dX1_wallTime_16 hl (by decide) rfl (fun ls hl => ?_)
  have hFL := LI_fill hI hT_2 (Or.inl rfl)
  have e0 : T_2 0 0 = T 0 0 := by rw [hT_2.1 0 (by decide) (by decide) (by decide)]
  have hlr : ∀ d : Nat, d < 51 → T_2 5 (51 * 31 + d) = mt u (T 0 0) v1 (T 1 0) d := fun d hd => by have := hFL.2.2 d hd; rw [e0] at this; exact this
  have key18 : ∀ (N : Nat) (n : Nat) (H : Heap) (locs : List Loc) (ls : Array Slot), (51 - n) < N → (n ≤ 51) → zX D B0 (zl (layL cA h T_2) R) s.heap H locs → lv_has ls 8 [(0, .ref (h 0)), (1, .int (i32 (e1 : Int))), (2, .int (i32 (e2 : Int))), (3, .int (i32 v1)), (4, .int (i32 (rmin (wlf e1 e2 u (T 0 0) v1 (T 1 0)) n))), (5, .int (i32 (n : Int)))] → W p l e rX1_wallTime s m args below meth c H locs 0 0 Q (F0 m 18 ls []) := by
    intro N
    induction N with
    | zero => intros; omega
    | succ N ih18 =>
      intro n H locs ls hN hn X hl
      refine lv_iload E.1 E.2.1 dX1_wallTime_18 (lv_at hl 5 rfl) ?_
      refine z_bipush E dX1_wallTime_20 (by decide +kernel) ?_
      refine z_cgt E 93 ⟨by omega, by omega⟩ ⟨by omega, by omega⟩ dX1_wallTime_22 (by decide) (fun h22_3 => ?_) (fun h22_3 => ?_)
      · refine lv_iload E.1 E.2.1 dX1_wallTime_93 (lv_at hl 4 rfl) ?_
        have hrm := rmin_is (f := wlf e1 e2 u (T 0 0) v1 (T 1 0)) 50 (fun k hk => by have a1 := mfb_rng (ex := e1) (x := k) (u := u) (w := T 0 0) (kk := v1) (dd := T 1 0) (by omega) (by omega) (by omega) (by omega) he1 (by omega); have a2 := mfb_rng (ex := e2) (x := k) (u := u) (w := T 0 0) (kk := v1) (dd := T 1 0) (by omega) (by omega) (by omega) (by omega) he2 (by omega); unfold wlf; omega)
        exact z_ret E X hQ (⟨by rw [show n = 50 + 1 by omega, hrm], T_2, hFL.1, hT_2.1, X.1⟩) dX1_wallTime_95
      · have hz1 := zabs_rng (a := (e1 : Int) - (n : Int)) (m := 50) (by omega) (by omega)
        have hz2 := zabs_rng (a := (e2 : Int) - (n : Int)) (m := 50) (by omega) (by omega)
        have hm1 := mfb_rng (ex := e1) (x := n) (u := u) (w := T 0 0) (kk := v1) (dd := T 1 0) (by omega) (by omega) (by omega) (by omega) he1 (by omega)
        have hm2 := mfb_rng (ex := e2) (x := n) (u := u) (w := T 0 0) (kk := v1) (dd := T 1 0) (by omega) (by omega) (by omega) (by omega) he2 (by omega)
        have hrr := rmin_rng (f := wlf e1 e2 u (T 0 0) v1 (T 1 0)) (lo := 0) (by decide) (n := n) (fun k hk => by have a1 := mfb_rng (ex := e1) (x := k) (u := u) (w := T 0 0) (kk := v1) (dd := T 1 0) (by omega) (by omega) (by omega) (by omega) he1 (by omega); have a2 := mfb_rng (ex := e2) (x := k) (u := u) (w := T 0 0) (kk := v1) (dd := T 1 0) (by omega) (by omega) (by omega) (by omega) he2 (by omega); unfold wlf; omega)
        refine lv_iload_n E.1 E.2.1 dX1_wallTime_25 rfl (lv_at hl 1 rfl) ?_
        refine lv_iload E.1 E.2.1 dX1_wallTime_26 (lv_at hl 5 rfl) ?_
        refine z_isub E dX1_wallTime_28 ?_
        refine z_mabs E ⟨by omega, by omega⟩ (by decide +kernel) (by decide +kernel) (by decide +kernel) (by decide +kernel) hl.1 (by decide) (Nat.le_of_ble_eq_true rfl) ⟨by decide, by decide⟩ dX1_wallTime_29 ?_
        refine lv_istore (lv' := [(6, .int (i32 (zabs ((e1 : Int) - (n : Int))))), (0, .ref (h 0)), (1, .int (i32 (e1 : Int))), (2, .int (i32 (e2 : Int))), (3, .int (i32 v1)), (4, .int (i32 (rmin (wlf e1 e2 u (T 0 0) v1 (T 1 0)) n))), (5, .int (i32 (n : Int)))]) E.1 E.2.1 dX1_wallTime_32 hl (by decide) rfl (fun ls hl => ?_)
        refine lv_iload_n E.1 E.2.1 dX1_wallTime_34 rfl (lv_at hl 3 rfl) ?_
        refine lv_iload E.1 E.2.1 dX1_wallTime_35 (lv_at hl 6 rfl) ?_
        refine z_isub E dX1_wallTime_37 ?_
        refine z_mabs E ⟨by omega, by omega⟩ (by decide +kernel) (by decide +kernel) (by decide +kernel) (by decide +kernel) hl.1 (by decide) (Nat.le_of_ble_eq_true rfl) ⟨by decide, by decide⟩ dX1_wallTime_38 ?_
        refine lv_istore (lv' := [(7, .int (i32 (zabs ((e2 : Int) - (n : Int))))), (6, .int (i32 (zabs ((e1 : Int) - (n : Int))))), (0, .ref (h 0)), (1, .int (i32 (e1 : Int))), (2, .int (i32 (e2 : Int))), (3, .int (i32 v1)), (4, .int (i32 (rmin (wlf e1 e2 u (T 0 0) v1 (T 1 0)) n))), (5, .int (i32 (n : Int)))]) E.1 E.2.1 dX1_wallTime_41 hl (by decide) rfl (fun ls hl => ?_)
        refine lv_iload E.1 E.2.1 dX1_wallTime_43 (lv_at hl 1 rfl) ?_
        refine z_bipush E dX1_wallTime_45 (by decide +kernel) ?_
        refine z_cgt E 87 ⟨by omega, by omega⟩ ⟨by omega, by omega⟩ dX1_wallTime_47 (by decide) (fun h47_4 => ?_) (fun h47_4 => ?_)
        · exfalso
          omega
        · refine lv_iload E.1 E.2.1 dX1_wallTime_50 (lv_at hl 0 rfl) ?_
          refine z_bipush E dX1_wallTime_52 (by decide +kernel) ?_
          refine z_cgt E 87 ⟨by omega, by omega⟩ ⟨by omega, by omega⟩ dX1_wallTime_54 (by decide) (fun h54_5 => ?_) (fun h54_5 => ?_)
          · exfalso
            omega
          · refine lv_iload E.1 E.2.1 dX1_wallTime_57 (lv_at hl 6 rfl) ?_
            refine lv_aload_n E.1 E.2.1 dX1_wallTime_59 rfl (lv_at hl 2 rfl) ?_
            refine z_get E X (lL_0 R cA h T_2) rfl iX1 5 (by decide) (by decide +kernel) (v := .ref (h 5)) rfl dX1_wallTime_60 ?_
            refine z_sipush E dX1_wallTime_63 (by decide +kernel) ?_
            refine lv_iload E.1 E.2.1 dX1_wallTime_66 (lv_at hl 1 rfl) ?_
            refine z_iadd E dX1_wallTime_68 ?_
            refine z_top ((51 * 31 + (zabs ((e1 : Int) - (n : Int))).toNat : Nat) : Int) (by omega) ?_
            refine z_iald E X (lL_5 R cA h T_2) (51 * 31 + (zabs ((e1 : Int) - (n : Int))).toNat) (by omega) (by omega) (by decide) dX1_wallTime_69 ?_
            refine z_top (minb (fb e1 n u (T 0 0) v1 (T 1 0)) 50) (by rw [hlr _ (by omega)]; exact mt_fb (by omega) (by omega) (by omega) (by omega) he1 (by omega)) ?_
            refine lv_aload_n E.1 E.2.1 dX1_wallTime_70 rfl (lv_at hl 2 rfl) ?_
            refine z_get E X (lL_0 R cA h T_2) rfl iX1 5 (by decide) (by decide +kernel) (v := .ref (h 5)) rfl dX1_wallTime_71 ?_
            refine z_sipush E dX1_wallTime_74 (by decide +kernel) ?_
            refine lv_iload E.1 E.2.1 dX1_wallTime_77 (lv_at hl 0 rfl) ?_
            refine z_iadd E dX1_wallTime_79 ?_
            refine z_top ((51 * 31 + (zabs ((e2 : Int) - (n : Int))).toNat : Nat) : Int) (by omega) ?_
            refine z_iald E X (lL_5 R cA h T_2) (51 * 31 + (zabs ((e2 : Int) - (n : Int))).toNat) (by omega) (by omega) (by decide) dX1_wallTime_80 ?_
            refine z_top (minb (fb e2 n u (T 0 0) v1 (T 1 0)) 50) (by rw [hlr _ (by omega)]; exact mt_fb (by omega) (by omega) (by omega) (by omega) he2 (by omega)) ?_
            refine z_iadd E dX1_wallTime_81 ?_
            refine z_mmin E ⟨by omega, by omega⟩ ⟨by omega, by omega⟩ (by decide +kernel) (by decide +kernel) (by decide +kernel) (by decide +kernel) hl.1 (by decide) (Nat.le_of_ble_eq_true rfl) ⟨by decide, by decide⟩ dX1_wallTime_82 ?_
            refine z_top (rmin (wlf e1 e2 u (T 0 0) v1 (T 1 0)) (n + 1)) (by rw [rmin_S]; rfl) ?_
            refine lv_istore (lv' := [(4, .int (i32 (rmin (wlf e1 e2 u (T 0 0) v1 (T 1 0)) (n + 1)))), (7, .int (i32 (zabs ((e2 : Int) - (n : Int))))), (6, .int (i32 (zabs ((e1 : Int) - (n : Int))))), (0, .ref (h 0)), (1, .int (i32 (e1 : Int))), (2, .int (i32 (e2 : Int))), (3, .int (i32 v1)), (5, .int (i32 (n : Int)))]) E.1 E.2.1 dX1_wallTime_85 hl (by decide) rfl (fun ls hl => ?_)
            refine z_iinc (lv' := [(5, .int (i32 ((n + 1 : Nat) : Int))), (4, .int (i32 (rmin (wlf e1 e2 u (T 0 0) v1 (T 1 0)) (n + 1)))), (7, .int (i32 (zabs ((e2 : Int) - (n : Int))))), (6, .int (i32 (zabs ((e1 : Int) - (n : Int))))), (0, .ref (h 0)), (1, .int (i32 (e1 : Int))), (2, .int (i32 (e2 : Int))), (3, .int (i32 v1))]) E dX1_wallTime_87 hl (k := 7) rfl (by decide) rfl (fun ls hl => ?_)
            refine lv_goto (tgt := 18) E.1 E.2.1 dX1_wallTime_90 (by decide) ?_
            exact ih18 (n + 1) _ _ _ (by omega) (by omega) X (lv_sub hl [4, 5, 6, 7, 1, 0] rfl)
  exact key18 ((51 - 0) + 1) 0 _ _ _ (by omega) (by omega) X (lv_sub hl [2, 3, 4, 5, 1, 0] rfl)

abbrev rX1_lay : Room := { frames := 1, cells := 0, slots := 0, locals := 25 }
theorem LI_lay {T T1 : zS} {w1 p1 u1 v1 : Int} (hw : 0 ≤ w1 ∧ w1 ≤ 20) (hp : 1 ≤ p1 ∧ p1 ≤ 30) (hv : 1 ≤ v1 ∧ v1 ≤ 8) (h : (∀ q : Nat, q ≠ 6 → T1 q = (zs (zs (zs T 0 0 w1) 1 0 p1) 2 0 v1) q) ∧ ∀ r : Nat, r < 32 → T1 6 r = 0) : LI (zf T1 3 (fun j => tk u1 (j : Int) w1)) u1 ∧ zf T1 3 (fun j => tk u1 (j : Int) w1) 0 0 = w1 ∧ zf T1 3 (fun j => tk u1 (j : Int) w1) 1 0 = p1 ∧ zf T1 3 (fun j => tk u1 (j : Int) w1) 2 0 = v1 := by
  have e0 : zf T1 3 (fun j => tk u1 (j : Int) w1) 0 0 = w1 := by rw [zf_ne (by decide), h.1 0 (by decide)]; rfl
  have e1 : zf T1 3 (fun j => tk u1 (j : Int) w1) 1 0 = p1 := by rw [zf_ne (by decide), h.1 1 (by decide)]; rfl
  have e2 : zf T1 3 (fun j => tk u1 (j : Int) w1) 2 0 = v1 := by rw [zf_ne (by decide), h.1 2 (by decide)]; rfl
  have e6 : ∀ r : Nat, r < 32 → zf T1 3 (fun j => tk u1 (j : Int) w1) 6 r = 0 := fun r hr => by rw [zf_ne (by decide)]; exact h.2 r hr
  have e3 : zf T1 3 (fun j => tk u1 (j : Int) w1) 3 = (fun j : Nat => tk u1 (j : Int) w1) := zf_eq
  generalize zf T1 3 (fun j => tk u1 (j : Int) w1) = T2 at e0 e1 e2 e3 e6 ⊢
  refine ⟨⟨by rw [e0]; exact hw, by rw [e1]; exact hp, by rw [e2]; exact hv, fun r hr => Or.inl (e6 r hr), fun r hr h1 => ?_, fun d hd => by rw [e3, e0]⟩, e0, e1, e2⟩
  rw [e6 r (by omega)] at h1
  omega
set_option maxHeartbeats 4000000 in
set_option maxRecDepth 100000 in
theorem L_lay (l : Launch) (D : va_G) (cA : Nat → ClassId) (B0 : Nat) (R : zL) (h : Nat → Nat) (T : zS) (w1 p1 u1 v1 : Int) (hw1 : 0 ≤ w1 ∧ w1 ≤ 20) (hp1 : 1 ≤ p1 ∧ p1 ≤ 30) (hu1 : 1 ≤ u1 ∧ u1 ≤ 8) (hv1 : 1 ≤ v1 ∧ v1 ≤ 8) : zM l yX1_lay wsX1_lay rX1_lay [.ref (h 0), .int (i32 w1), .int (i32 p1), .int (i32 u1), .int (i32 v1)] D cA B0 (zW D B0 (zl (layL cA h T) R)) (fun v H => v = none ∧ ∃ T' : zS, LI T' u1 ∧ T' 0 0 = w1 ∧ T' 1 0 = p1 ∧ T' 2 0 = v1 ∧ zW D B0 (zl (layL cA h T') R) H) := by
  refine z_met (cc := cX1_lay) (maxL := 6) (ret := none) (by decide) rfl (Nat.le_of_ble_eq_true rfl) ?_
  intro p e s m args below meth c ls Q hQ E hP hB hS hl
  have hl : lv_has ls 6 [(0, .ref (h 0)), (1, .int (i32 w1)), (2, .int (i32 p1)), (3, .int (i32 u1)), (4, .int (i32 v1))] := hl
  have iX1 : ∀ w ∈ u_ws RX1 TX1 7, w ∈ wsX1_lay := by decide +kernel
  have X : zX D B0 (zl (layL cA h T) R) s.heap s.heap [] := ⟨hP, hS⟩
  refine lv_aload_n E.1 E.2.1 dX1_lay_0 rfl (lv_at hl 0 rfl) ?_
  refine lv_iload_n E.1 E.2.1 dX1_lay_1 rfl (lv_at hl 1 rfl) ?_
  refine z_put E X (lL_0 R cA h T) rfl iX1 tyX1 tyX1_ok nmX1 0 (by decide) (by decide +kernel) rfl rfl rfl (Nat.le_of_ble_eq_true rfl) dX1_lay_2 (fun H locs X => ?_)
  have X := lp_0 X
  refine lv_aload_n E.1 E.2.1 dX1_lay_5 rfl (lv_at hl 0 rfl) ?_
  refine lv_iload_n E.1 E.2.1 dX1_lay_6 rfl (lv_at hl 2 rfl) ?_
  refine z_put E X (lL_0 R cA h (zs T 0 0 w1)) rfl iX1 tyX1 tyX1_ok nmX1 1 (by decide) (by decide +kernel) rfl rfl rfl (Nat.le_of_ble_eq_true rfl) dX1_lay_7 (fun H locs X => ?_)
  have X := lp_1 X
  refine lv_aload_n E.1 E.2.1 dX1_lay_10 rfl (lv_at hl 0 rfl) ?_
  refine lv_iload E.1 E.2.1 dX1_lay_11 (lv_at hl 4 rfl) ?_
  refine z_put E X (lL_0 R cA h (zs (zs T 0 0 w1) 1 0 p1)) rfl iX1 tyX1 tyX1_ok nmX1 2 (by decide) (by decide +kernel) rfl rfl rfl (Nat.le_of_ble_eq_true rfl) dX1_lay_13 (fun H locs X => ?_)
  have X := lp_2 X
  refine z_iconst E dX1_lay_16 ?_
  refine z_top (0 : Int) (rfl) ?_
  refine lv_istore (lv' := [(5, .int (i32 (0 : Int))), (0, .ref (h 0)), (1, .int (i32 w1)), (2, .int (i32 p1)), (3, .int (i32 u1)), (4, .int (i32 v1))]) E.1 E.2.1 dX1_lay_17 hl (by decide) rfl (fun ls hl => ?_)
  have key19 : ∀ (N : Nat) (n : Nat) (T' : zS) (H : Heap) (locs : List Loc) (ls : Array Slot), (32 - n) < N → (n ≤ 32) → ((∀ q : Nat, q ≠ 6 → T' q = (zs (zs (zs T 0 0 w1) 1 0 p1) 2 0 v1) q) ∧ ∀ r : Nat, r < n → T' 6 r = 0) → zX D B0 (zl (layL cA h T') R) s.heap H locs → lv_has ls 6 [(0, .ref (h 0)), (1, .int (i32 w1)), (2, .int (i32 p1)), (3, .int (i32 u1)), (4, .int (i32 v1)), (5, .int (i32 (n : Int)))] → W p l e rX1_lay s m args below meth c H locs 0 0 Q (F0 m 19 ls []) := by
    intro N
    induction N with
    | zero => intros; omega
    | succ N ih19 =>
      intro n T' H locs ls hN hn hT X hl
      refine lv_iload E.1 E.2.1 dX1_lay_19 (lv_at hl 5 rfl) ?_
      refine lv_aload_n E.1 E.2.1 dX1_lay_21 rfl (lv_at hl 0 rfl) ?_
      refine z_get E X (lL_0 R cA h T') rfl iX1 6 (by decide) (by decide +kernel) (v := .ref (h 6)) rfl dX1_lay_22 ?_
      refine z_alen (z := 32) E X 1 (lL_6 R cA h T') rfl (by omega) dX1_lay_25 ?_
      refine z_cge E 43 ⟨by omega, by omega⟩ ⟨by omega, by omega⟩ dX1_lay_26 (by decide) (fun h26_1 => ?_) (fun h26_1 => ?_)
      · refine lv_aload_n E.1 E.2.1 dX1_lay_43 rfl (lv_at hl 0 rfl) ?_
        refine z_get E X (lL_0 R cA h T') rfl iX1 3 (by decide) (by decide +kernel) (v := .ref (h 3)) rfl dX1_lay_44 ?_
        refine lv_iload_n E.1 E.2.1 dX1_lay_47 rfl (lv_at hl 1 rfl) ?_
        refine lv_iload_n E.1 E.2.1 dX1_lay_48 rfl (lv_at hl 3 rfl) ?_
        refine z_callJ (As := [.ref (h 3), .int (i32 w1), .int (i32 u1)]) (rest := []) (n := 3) E X (L_fillTicks l D cA B0 (zl (layL cA h T') R) 2 0 (h 3) (T' 3) w1 u1 (lL_3 R cA h T') (by omega) (by omega)) gX1_lay_X1_fillTicks rfl (by decide +kernel) ⟨by decide, by decide⟩ rfl hl.1 rfl (Nat.le_of_ble_eq_true rfl) dX1_lay_49 ⟨by decide, by decide⟩ X.1 0 0 ⟨rfl, rfl⟩ (fun v H locs hv hS_2 => ?_)
        obtain ⟨rfl, hw⟩ := hv
        replace X : zX D B0 (zl (layL cA h (zf T' 3 (fun j => tk u1 (j : Int) w1))) R) s.heap H locs := lf_3 ⟨hw, hS_2⟩
        have hT9 := hT
        rw [show n = 32 by omega] at hT9
        have hLL := LI_lay (u1 := u1) hw1 hp1 hv1 hT9
        exact z_retv E X hQ (⟨rfl, (zf T' 3 (fun j => tk u1 (j : Int) w1)), hLL.1, hLL.2.1, hLL.2.2.1, hLL.2.2.2, X.1⟩) dX1_lay_52
      · refine lv_aload_n E.1 E.2.1 dX1_lay_29 rfl (lv_at hl 0 rfl) ?_
        refine z_get E X (lL_0 R cA h T') rfl iX1 6 (by decide) (by decide +kernel) (v := .ref (h 6)) rfl dX1_lay_30 ?_
        refine lv_iload E.1 E.2.1 dX1_lay_33 (lv_at hl 5 rfl) ?_
        refine z_iconst E dX1_lay_35 ?_
        refine z_zast E X (lL_6 R cA h T') (by omega) n (by omega) (by omega) (by decide) dX1_lay_36 (fun H locs X => ?_)
        have X := la_6 X
        refine z_iinc (lv' := [(5, .int (i32 ((n + 1 : Nat) : Int))), (0, .ref (h 0)), (1, .int (i32 w1)), (2, .int (i32 p1)), (3, .int (i32 u1)), (4, .int (i32 v1))]) E dX1_lay_37 hl (k := 5) rfl (by decide) rfl (fun ls hl => ?_)
        refine lv_goto (tgt := 19) E.1 E.2.1 dX1_lay_40 (by decide) ?_
        exact ih19 (n + 1) (zs T' 6 n 0) _ _ _ (by omega) (by omega) (⟨fun q hq => by rw [zs_ne hq]; exact hT.1 q hq, fun r hr => by rw [zs_eq]; exact (if hh : r = n then (by rw [hh, zg_eq]) else (by rw [zg_ne hh]; exact hT.2 r (by omega)))⟩) X (lv_sub hl [1, 2, 3, 4, 5, 0] rfl)
  exact key19 ((32 - 0) + 1) 0 (zs (zs (zs T 0 0 w1) 1 0 p1) 2 0 v1) _ _ _ (by omega) (by omega) (⟨fun _ _ => rfl, fun r hr => absurd hr (Nat.not_lt_zero r)⟩) X (lv_sub hl [1, 2, 3, 4, 5, 0] rfl)

