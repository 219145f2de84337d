abbrev rX6_ticks : Room := { frames := 0, cells := 0, slots := 0, locals := 0 }
set_option maxHeartbeats 4000000 in
set_option maxRecDepth 100000 in
theorem c_ticks (l : Launch) (D : va_G) (cA : Nat → ClassId) (B0 : Nat) (H0 : Heap) (x1 x2 x3 : Int) (hk : 0 ≤ x1 ∧ x1 ≤ 8) (hx : -50 ≤ x2 ∧ x2 ≤ 50) (hy : -50 ≤ x3 ∧ x3 ≤ 50) : zM l yX6_ticks wsX6_ticks rX6_ticks [.int (i32 x1), .int (i32 x2), .int (i32 x3)] D cA B0 (fun H => H = H0) (fun v H => H = H0 ∧ v = some (.int (i32 (tk x1 x2 x3)))) := by
  refine z_met (cc := cX6_ticks) (maxL := 6) (ret := (some .int)) (by decide) rfl (Nat.le_of_ble_eq_true rfl) ?_
  intro p e s m args below meth c ls Q hQ E hP hB hS hl
  have hl : lv_has ls 6 [(0, .int (i32 x1)), (1, .int (i32 x2)), (2, .int (i32 x3))] := hl
  have X : zX D B0 zL0 s.heap s.heap [] := zX_none hB hS
  refine lv_iload_n E.1 E.2.1 dX6_ticks_0 rfl (lv_at hl 0 rfl) ?_
  refine lv_iload_n E.1 E.2.1 dX6_ticks_1 rfl (lv_at hl 0 rfl) ?_
  refine z_imul E dX6_ticks_2 ?_
  refine lv_iload_n E.1 E.2.1 dX6_ticks_3 rfl (lv_at hl 1 rfl) ?_
  refine lv_iload_n E.1 E.2.1 dX6_ticks_4 rfl (lv_at hl 1 rfl) ?_
  refine z_imul E dX6_ticks_5 ?_
  refine lv_iload_n E.1 E.2.1 dX6_ticks_6 rfl (lv_at hl 2 rfl) ?_
  refine lv_iload_n E.1 E.2.1 dX6_ticks_7 rfl (lv_at hl 2 rfl) ?_
  refine z_imul E dX6_ticks_8 ?_
  refine z_iadd E dX6_ticks_9 ?_
  refine z_imul E dX6_ticks_10 ?_
  obtain ⟨nn, hnn⟩ : ∃ nn : Int, nn = x1 * x1 * (x2 * x2 + x3 * x3) := ⟨_, rfl⟩
  have ha := tk_arg hk hx hy
  rw [← hnn] at ha
  refine z_top nn (hnn.symm) ?_
  refine lv_istore_n (lv' := [(3, .int (i32 nn)), (0, .int (i32 x1)), (1, .int (i32 x2)), (2, .int (i32 x3))]) E.1 E.2.1 dX6_ticks_11 rfl hl (by decide) rfl (fun ls hl => ?_)
  refine z_iconst E dX6_ticks_12 ?_
  refine lv_istore (lv' := [(4, .int (i32 0)), (3, .int (i32 nn)), (0, .int (i32 x1)), (1, .int (i32 x2)), (2, .int (i32 x3))]) E.1 E.2.1 dX6_ticks_13 hl (by decide) rfl (fun ls hl => ?_)
  refine z_sipush E dX6_ticks_15 (by decide +kernel) ?_
  refine lv_istore (lv' := [(5, .int (i32 512)), (4, .int (i32 0)), (3, .int (i32 nn)), (0, .int (i32 x1)), (1, .int (i32 x2)), (2, .int (i32 x3))]) E.1 E.2.1 dX6_ticks_18 hl (by decide) rfl (fun ls hl => ?_)
  have key20 : ∀ (N : Nat) (r : Int) (q : Int) (H : Heap) (locs : List Loc) (ls : Array Slot), (Int.toNat q) < N → (H = H0) → (q = 512 ∨ q = 256 ∨ q = 128 ∨ q = 64 ∨ q = 32 ∨ q = 16 ∨ q = 8 ∨ q = 4 ∨ q = 2 ∨ q = 1 ∨ q = 0) → (0 ≤ r) → (r * r ≤ nn) → (0 < q → nn < (r + 2 * q) * (r + 2 * q)) → (q = 0 → nn < (r + 1) * (r + 1)) → zX D B0 zL0 s.heap H locs → lv_has ls 6 [(3, .int (i32 nn)), (4, .int (i32 r)), (5, .int (i32 q))] → W p l e rX6_ticks s m args below meth c H locs 0 0 Q (F0 m 20 ls []) := by
    intro N
    induction N with
    | zero => intros; omega
    | succ N ih20 =>
      intro r q H locs ls hN hH hq h1 h2 h3 h4 X hl
      refine lv_iload E.1 E.2.1 dX6_ticks_20 (lv_at hl 2 rfl) ?_
      refine z_fle E 60 ⟨by omega, by omega⟩ dX6_ticks_22 (by decide) (fun h22_1 => ?_) (fun h22_1 => ?_)
      · refine lv_iload E.1 E.2.1 dX6_ticks_60 (lv_at hl 1 rfl) ?_
        have hq0 : q = 0 := by omega
        have er := isq_eq (n := nn) (by omega) h1 h2 (h4 hq0)
        exact z_ret E X hQ (⟨hH, by rw [er, hnn]; rfl⟩) dX6_ticks_62
      · have hr : r < 600 := sq_lt h1 (by omega) (by omega)
        have hrq := sq_le (a := r + q) (m := 1112) (by omega) (by omega)
        refine lv_iload E.1 E.2.1 dX6_ticks_25 (lv_at hl 1 rfl) ?_
        refine lv_iload E.1 E.2.1 dX6_ticks_27 (lv_at hl 1 rfl) ?_
        refine lv_iload E.1 E.2.1 dX6_ticks_29 (lv_at hl 2 rfl) ?_
        refine z_iadd E dX6_ticks_31 ?_
        refine lv_iload E.1 E.2.1 dX6_ticks_32 (lv_at hl 1 rfl) ?_
        refine lv_iload E.1 E.2.1 dX6_ticks_34 (lv_at hl 2 rfl) ?_
        refine z_iadd E dX6_ticks_36 ?_
        refine z_imul E dX6_ticks_37 ?_
        refine lv_iload_n E.1 E.2.1 dX6_ticks_38 rfl (lv_at hl 0 rfl) ?_
        refine z_cgt E 47 ⟨by omega, by omega⟩ ⟨by omega, by omega⟩ dX6_ticks_39 (by decide) (fun h39_2 => ?_) (fun h39_2 => ?_)
        · have h39 := h39_2
          refine z_iconst E dX6_ticks_47 ?_
          refine z_iadd E dX6_ticks_48 ?_
          refine lv_istore (lv' := [(4, .int (i32 (r + 0))), (3, .int (i32 nn)), (5, .int (i32 q))]) E.1 E.2.1 dX6_ticks_49 hl (by decide) rfl (fun ls hl => ?_)
          refine lv_iload E.1 E.2.1 dX6_ticks_51 (lv_at hl 2 rfl) ?_
          refine z_iconst E dX6_ticks_53 ?_
          refine z_ishr1 E (by omega) (by omega) dX6_ticks_54 ?_
          refine lv_istore (lv' := [(5, .int (i32 (q / 2))), (4, .int (i32 (r + 0))), (3, .int (i32 nn))]) E.1 E.2.1 dX6_ticks_55 hl (by decide) rfl (fun ls hl => ?_)
          refine lv_goto (tgt := 20) E.1 E.2.1 dX6_ticks_57 (by decide) ?_
          exact ih20 (r + 0) (q / 2) _ _ _ (by omega) hH (by omega) (by omega) (by rw [Int.add_zero]; exact h2) (fun _ => by rw [show r + 0 + 2 * (q / 2) = r + q by omega]; exact h39) (fun _ => by rw [show r + 0 + 1 = r + q by omega]; exact h39) X (lv_sub hl [2, 1, 0] rfl)
        · have h39 := h39_2
          refine lv_iload E.1 E.2.1 dX6_ticks_42 (lv_at hl 2 rfl) ?_
          refine lv_goto (tgt := 48) E.1 E.2.1 dX6_ticks_44 (by decide) ?_
          refine z_iadd E dX6_ticks_48 ?_
          refine lv_istore (lv' := [(4, .int (i32 (r + q))), (3, .int (i32 nn)), (5, .int (i32 q))]) E.1 E.2.1 dX6_ticks_49 hl (by decide) rfl (fun ls hl => ?_)
          refine lv_iload E.1 E.2.1 dX6_ticks_51 (lv_at hl 2 rfl) ?_
          refine z_iconst E dX6_ticks_53 ?_
          refine z_ishr1 E (by omega) (by omega) dX6_ticks_54 ?_
          refine lv_istore (lv' := [(5, .int (i32 (q / 2))), (4, .int (i32 (r + q))), (3, .int (i32 nn))]) E.1 E.2.1 dX6_ticks_55 hl (by decide) rfl (fun ls hl => ?_)
          refine lv_goto (tgt := 20) E.1 E.2.1 dX6_ticks_57 (by decide) ?_
          exact ih20 (r + q) (q / 2) _ _ _ (by omega) hH (by omega) (by omega) (by omega) (fun _ => by rw [show r + q + 2 * (q / 2) = r + 2 * q by omega]; exact h3 (by omega)) (fun _ => by rw [show r + q + 1 = r + 2 * q by omega]; exact h3 (by omega)) X (lv_sub hl [2, 1, 0] rfl)
  exact key20 ((Int.toNat 512) + 1) 0 512 _ _ _ (by omega) hP (by omega) (by omega) (by omega) (fun _ => by omega) (fun h => by omega) X (lv_sub hl [2, 1, 0] rfl)

abbrev rX6_unmake : Room := { frames := 0, cells := 0, slots := 0, locals := 0 }
set_option maxHeartbeats 4000000 in
set_option maxRecDepth 100000 in
theorem m_unmake (l : Launch) (D : va_G) (cA : Nat → ClassId) (B0 : Nat) (C : zL) (am : Nat → Nat) (S U : zS) : zM l yX6_unmake wsX6_unmake rX6_unmake [.ref (am 0)] D cA B0 (zW D B0 (zj C (layM cA am S U))) (fun v H => v = none ∧ ∃ T : zS, (∀ q : Nat, q ≠ 16 → T q = U q) ∧ (∀ k : Nat, k < 408 → T 16 k = 0) ∧ zW D B0 (zj C (layM cA am S T)) H) := by
  refine z_met (cc := cX6_unmake) (maxL := 2) (ret := none) (by decide) rfl (Nat.le_of_ble_eq_true rfl) ?_
  intro p e s m args below meth c ls Q hQ E hP hB hS hl
  have hl : lv_has ls 2 [(0, .ref (am 0))] := hl
  have iX6 : ∀ w ∈ u_ws RX6 TX6 28, w ∈ wsX6_unmake := by decide +kernel
  have X : zX D B0 (zj C (layM cA am S U)) s.heap s.heap [] := ⟨hP, hS⟩
  refine z_iconst E dX6_unmake_0 ?_
  refine lv_istore_n (lv' := [(1, .int (i32 0)), (0, .ref (am 0))]) E.1 E.2.1 dX6_unmake_1 rfl hl (by decide) rfl (fun ls hl => ?_)
  have key2 : ∀ (N : Nat) (n : Nat) (T : zS) (H : Heap) (locs : List Loc) (ls : Array Slot), (408 - n) < N → (n ≤ 408) → (∀ q : Nat, q ≠ 16 → T q = U q) → (∀ k : Nat, k < n → T 16 k = 0) → zX D B0 (zj C (layM cA am S T)) s.heap H locs → lv_has ls 2 [(0, .ref (am 0)), (1, .int (i32 (n : Int)))] → W p l e rX6_unmake s m args below meth c H locs 0 0 Q (F0 m 2 ls []) := by
    intro N
    induction N with
    | zero => intros; omega
    | succ N ih2 =>
      intro n T H locs ls hN hn hT hz X hl
      refine lv_iload_n E.1 E.2.1 dX6_unmake_2 rfl (lv_at hl 1 rfl) ?_
      refine z_sipush E dX6_unmake_3 (by decide +kernel) ?_
      refine z_cge E 22 ⟨by omega, by omega⟩ ⟨by omega, by omega⟩ dX6_unmake_6 (by decide) (fun h6_1 => ?_) (fun h6_1 => ?_)
      · exact z_retv E X hQ (⟨rfl, T, hT, fun k hk => hz k (by omega), X.1⟩) dX6_unmake_22
      · refine lv_aload_n E.1 E.2.1 dX6_unmake_9 rfl (lv_at hl 0 rfl) ?_
        refine z_get E X (lM_0 C cA am S T) rfl iX6 16 (by decide) (by decide +kernel) (v := .ref (am 16)) rfl dX6_unmake_10 ?_
        refine lv_iload_n E.1 E.2.1 dX6_unmake_13 rfl (lv_at hl 1 rfl) ?_
        refine z_iconst E dX6_unmake_14 ?_
        refine z_zast E X (lM_16 C cA am S T) (by omega) n (by omega) (by omega) (by decide) dX6_unmake_15 (fun H locs X => ?_)
        have X := ma_16 X
        refine z_iinc (lv' := [(1, .int (i32 ((n + 1 : Nat) : Int))), (0, .ref (am 0))]) E dX6_unmake_16 hl (k := 1) rfl (by decide) rfl (fun ls hl => ?_)
        refine lv_goto (tgt := 2) E.1 E.2.1 dX6_unmake_19 (by decide) ?_
        exact ih2 (n + 1) (zs T 16 n 0) _ _ _ (by omega) (by omega) (fun q hq => by rw [zs_ne hq]; exact hT q hq) (fun k hk => by rw [zs_eq]; exact (if h : k = n then (by rw [h, zg_eq]) else (by rw [zg_ne h]; exact hz k (by omega)))) X (lv_sub hl [1, 0] rfl)
  exact key2 ((408 - 0) + 1) 0 U _ _ _ (by omega) (by omega) (fun _ _ => rfl) (fun k hk => absurd hk (Nat.not_lt_zero k)) X (lv_sub hl [1, 0] rfl)

abbrev rX6_make : Room := { frames := 1, cells := 0, slots := 0, locals := 25 }
set_option maxHeartbeats 4000000 in
set_option maxRecDepth 100000 in
theorem m_make (l : Launch) (D : va_G) (cA : Nat → ClassId) (B0 : Nat) (C : zL) (am : Nat → Nat) (S U : zS) (hI : SI S) (hC : MC S U) (ea y : Nat) (he : (ea : Int) < S 5 0) (hy : S 1 0 ≤ (y : Int) ∧ (y : Int) ≤ S 1 0 + S 2 0) : zM l yX6_make wsX6_make rX6_make [.ref (am 0), .int (i32 (ea : Int)), .int (i32 (y : Int))] D cA B0 (zW D B0 (zj C (layM cA am S U))) (fun v H => v = none ∧ ∃ T : zS, MC S T ∧ T 16 (51 * ea + y) = 1 ∧ zW D B0 (zj C (layM cA am S T)) H) := by
  refine z_met (cc := cX6_make) (maxL := 7) (ret := none) (by decide) rfl (Nat.le_of_ble_eq_true rfl) ?_
  intro p e s m args below meth c ls Q hQ E hP hB hS hl
  have hl : lv_has ls 7 [(0, .ref (am 0)), (1, .int (i32 (ea : Int))), (2, .int (i32 (y : Int)))] := hl
  have iX6 : ∀ w ∈ u_ws RX6 TX6 28, w ∈ wsX6_make := by decide +kernel
  have X : zX D B0 (zj C (layM cA am S U)) s.heap s.heap [] := ⟨hP, hS⟩
  have hI0 := hI.1
  unfold SI0 at hI0
  obtain ⟨b1, b2, b3, b4, b5, b8, b17, b19, b7⟩ := hI0
  have h6 := hI.2.1 ea he
  have h16 : U 16 (51 * ea + y) = 0 ∨ U 16 (51 * ea + y) = 1 := by
    rcases hC (51 * ea + y) (by omega) with q | q
    · exact Or.inl q
    · exact Or.inr q.1
  refine lv_aload_n E.1 E.2.1 dX6_make_0 rfl (lv_at hl 0 rfl) ?_
  refine z_get E X (lM_0 C cA am S U) rfl iX6 16 (by decide) (by decide +kernel) (v := .ref (am 16)) rfl dX6_make_1 ?_
  refine z_bipush E dX6_make_4 (by decide +kernel) ?_
  refine lv_iload_n E.1 E.2.1 dX6_make_6 rfl (lv_at hl 1 rfl) ?_
  refine z_imul E dX6_make_7 ?_
  refine lv_iload_n E.1 E.2.1 dX6_make_8 rfl (lv_at hl 2 rfl) ?_
  refine z_iadd E dX6_make_9 ?_
  refine z_zald E X (lM_16 C cA am S U) ((51 * ea) + y) (by omega) (by omega) (by decide) dX6_make_10 ?_
  refine z_feq E 15 ⟨by omega, by omega⟩ dX6_make_11 (by decide) (fun h11_1 => ?_) (fun h11_1 => ?_)
  · refine lv_aload_n E.1 E.2.1 dX6_make_15 rfl (lv_at hl 0 rfl) ?_
    refine z_get E X (lM_0 C cA am S U) rfl iX6 16 (by decide) (by decide +kernel) (v := .ref (am 16)) rfl dX6_make_16 ?_
    refine z_bipush E dX6_make_19 (by decide +kernel) ?_
    refine lv_iload_n E.1 E.2.1 dX6_make_21 rfl (lv_at hl 1 rfl) ?_
    refine z_imul E dX6_make_22 ?_
    refine lv_iload_n E.1 E.2.1 dX6_make_23 rfl (lv_at hl 2 rfl) ?_
    refine z_iadd E dX6_make_24 ?_
    refine z_iconst E dX6_make_25 ?_
    refine z_zast E X (lM_16 C cA am S U) (by omega) ((51 * ea) + y) (by omega) (by omega) (by decide) dX6_make_26 (fun H locs X => ?_)
    have X := ma_16 X
    refine z_iconst E dX6_make_27 ?_
    refine lv_istore_n (lv' := [(3, .int (i32 0)), (0, .ref (am 0)), (1, .int (i32 (ea : Int))), (2, .int (i32 (y : Int)))]) E.1 E.2.1 dX6_make_28 rfl hl (by decide) rfl (fun ls hl => ?_)
    have key29 : ∀ (N : Nat) (n : Nat) (T : zS) (H : Heap) (locs : List Loc) (ls : Array Slot), (51 - n) < N → (n ≤ 51) → (mkI S U ea y n 0 T) → zX D B0 (zj C (layM cA am S T)) s.heap H locs → lv_has ls 7 [(0, .ref (am 0)), (1, .int (i32 (ea : Int))), (2, .int (i32 (y : Int))), (3, .int (i32 (n : Int)))] → W p l e rX6_make s m args below meth c H locs 0 0 Q (F0 m 29 ls []) := by
      intro N
      induction N with
      | zero => intros; omega
      | succ N ih29 =>
        intro n T H locs ls hN hn hT X hl
        refine lv_iload_n E.1 E.2.1 dX6_make_29 rfl (lv_at hl 3 rfl) ?_
        refine z_bipush E dX6_make_30 (by decide +kernel) ?_
        refine z_cge E 145 ⟨by omega, by omega⟩ ⟨by omega, by omega⟩ dX6_make_32 (by decide) (fun h32_2 => ?_) (fun h32_2 => ?_)
        · have en : n = 51 := by omega
          rw [en] at hT
          have hd := mkI_done hT hC he (by omega)
          exact z_retv E X hQ (⟨rfl, T, hd.1, hd.2, X.1⟩) dX6_make_145
        · refine z_bipush E dX6_make_35 (by decide +kernel) ?_
          refine z_bipush E dX6_make_37 (by decide +kernel) ?_
          refine lv_iload_n E.1 E.2.1 dX6_make_39 rfl (lv_at hl 1 rfl) ?_
          refine z_imul E dX6_make_40 ?_
          refine lv_iload_n E.1 E.2.1 dX6_make_41 rfl (lv_at hl 2 rfl) ?_
          refine z_iadd E dX6_make_42 ?_
          refine z_imul E dX6_make_43 ?_
          refine lv_iload_n E.1 E.2.1 dX6_make_44 rfl (lv_at hl 3 rfl) ?_
          refine z_iadd E dX6_make_45 ?_
          refine lv_istore (lv' := [(4, .int (i32 ((51 * ((51 * (ea : Int)) + (y : Int))) + (n : Int)))), (0, .ref (am 0)), (1, .int (i32 (ea : Int))), (2, .int (i32 (y : Int))), (3, .int (i32 (n : Int)))]) E.1 E.2.1 dX6_make_46 hl (by decide) rfl (fun ls hl => ?_)
          refine z_iconst E dX6_make_48 ?_
          refine lv_istore (lv' := [(5, .int (i32 0)), (4, .int (i32 ((51 * ((51 * (ea : Int)) + (y : Int))) + (n : Int)))), (0, .ref (am 0)), (1, .int (i32 (ea : Int))), (2, .int (i32 (y : Int))), (3, .int (i32 (n : Int)))]) E.1 E.2.1 dX6_make_49 hl (by decide) rfl (fun ls hl => ?_)
          have key51 : ∀ (N : Nat) (b : Nat) (T : zS) (H : Heap) (locs : List Loc) (ls : Array Slot), (51 - b) < N → (b ≤ 51) → (mkI S U ea y n b T) → zX D B0 (zj C (layM cA am S T)) s.heap H locs → lv_has ls 7 [(0, .ref (am 0)), (1, .int (i32 (ea : Int))), (2, .int (i32 (y : Int))), (3, .int (i32 (n : Int))), (4, .int (i32 (51 * (51 * (ea : Int) + (y : Int)) + (n : Int)))), (5, .int (i32 (b : Int)))] → W p l e rX6_make s m args below meth c H locs 0 0 Q (F0 m 51 ls []) := by
            intro N
            induction N with
            | zero => intros; omega
            | succ N ih51 =>
              intro b T H locs ls hN hb hT X hl
              refine lv_iload E.1 E.2.1 dX6_make_51 (lv_at hl 5 rfl) ?_
              refine z_bipush E dX6_make_53 (by decide +kernel) ?_
              refine z_cge E 139 ⟨by omega, by omega⟩ ⟨by omega, by omega⟩ dX6_make_55 (by decide) (fun h55_3 => ?_) (fun h55_3 => ?_)
              · refine z_iinc (lv' := [(3, .int (i32 ((n + 1 : Nat) : Int))), (0, .ref (am 0)), (1, .int (i32 (ea : Int))), (2, .int (i32 (y : Int))), (4, .int (i32 (51 * (51 * (ea : Int) + (y : Int)) + (n : Int)))), (5, .int (i32 (b : Int)))]) E dX6_make_139 hl (k := 3) rfl (by decide) rfl (fun ls hl => ?_)
                refine lv_goto (tgt := 29) E.1 E.2.1 dX6_make_142 (by decide) ?_
                exact ih29 (n + 1) T _ _ _ (by omega) (by omega) (mkI_next (by rw [show (51 : Nat) = b by omega]; exact hT)) X (lv_sub hl [1, 2, 3, 0] rfl)
              · refine lv_aload_n E.1 E.2.1 dX6_make_58 rfl (lv_at hl 0 rfl) ?_
                refine z_get E X (lM_0 C cA am S T) rfl iX6 3 (by decide) (by decide +kernel) (v := .int (i32 (S 3 0))) rfl dX6_make_59 ?_
                refine lv_iload E.1 E.2.1 dX6_make_62 (lv_at hl 5 rfl) ?_
                refine lv_aload_n E.1 E.2.1 dX6_make_64 rfl (lv_at hl 0 rfl) ?_
                refine z_get E X (lM_0 C cA am S T) rfl iX6 6 (by decide) (by decide +kernel) (v := .ref (am 6)) rfl dX6_make_65 ?_
                refine lv_iload_n E.1 E.2.1 dX6_make_68 rfl (lv_at hl 1 rfl) ?_
                refine z_iald E X (lM_6 C cA am S T) ea (by omega) (by omega) (by decide) dX6_make_69 ?_
                refine z_isub E dX6_make_70 ?_
                refine lv_aload_n E.1 E.2.1 dX6_make_71 rfl (lv_at hl 0 rfl) ?_
                refine z_get E X (lM_0 C cA am S T) rfl iX6 1 (by decide) (by decide +kernel) (v := .int (i32 (S 1 0))) rfl dX6_make_72 ?_
                refine z_callJ (As := [.int (i32 (S 3 0)), .int (i32 ((b : Int) - (S 6 ea))), .int (i32 (S 1 0))]) (rest := []) (n := 3) E X (c_ticks l D cA B0 _ (S 3 0) ((b : Int) - (S 6 ea)) (S 1 0) (by omega) (by omega) (by omega)) gX6_make_X6_ticks rfl (by decide +kernel) ⟨by decide, by decide⟩ rfl hl.1 rfl (Nat.le_of_ble_eq_true rfl) dX6_make_75 ⟨by decide, by decide⟩ rfl 0 0 ⟨rfl, rfl⟩ (fun v H locs hv hS_4 => ?_)
                obtain ⟨hH, rfl⟩ := hv
                subst hH
                replace X := X.same hS_4
                refine lv_aload_n E.1 E.2.1 dX6_make_78 rfl (lv_at hl 0 rfl) ?_
                refine z_get E X (lM_0 C cA am S T) rfl iX6 4 (by decide) (by decide +kernel) (v := .int (i32 (S 4 0))) rfl dX6_make_79 ?_
                refine lv_iload_n E.1 E.2.1 dX6_make_82 rfl (lv_at hl 3 rfl) ?_
                refine lv_iload E.1 E.2.1 dX6_make_83 (lv_at hl 5 rfl) ?_
                refine z_isub E dX6_make_85 ?_
                refine lv_iload_n E.1 E.2.1 dX6_make_86 rfl (lv_at hl 2 rfl) ?_
                refine lv_aload_n E.1 E.2.1 dX6_make_87 rfl (lv_at hl 0 rfl) ?_
                refine z_get E X (lM_0 C cA am S T) rfl iX6 1 (by decide) (by decide +kernel) (v := .int (i32 (S 1 0))) rfl dX6_make_88 ?_
                refine z_isub E dX6_make_91 ?_
                refine z_callJ (As := [.int (i32 (S 4 0)), .int (i32 ((n : Int) - (b : Int))), .int (i32 ((y : Int) - (S 1 0)))]) (rest := [.int (i32 (tk (S 3 0) ((b : Int) - (S 6 ea)) (S 1 0)))]) (n := 3) E X (c_ticks l D cA B0 _ (S 4 0) ((n : Int) - (b : Int)) ((y : Int) - (S 1 0)) (by omega) (by omega) (by omega)) gX6_make_X6_ticks rfl (by decide +kernel) ⟨by decide, by decide⟩ rfl hl.1 rfl (Nat.le_of_ble_eq_true rfl) dX6_make_92 ⟨by decide, by decide⟩ rfl 0 0 ⟨rfl, rfl⟩ (fun v H locs hv hS_5 => ?_)
                obtain ⟨hH, rfl⟩ := hv
                subst hH
                replace X := X.same hS_5
                refine z_iadd E dX6_make_95 ?_
                refine z_top (tw S ea n y b) (rfl) ?_
                refine lv_istore (lv' := [(6, .int (i32 (tw S ea n y b))), (0, .ref (am 0)), (1, .int (i32 (ea : Int))), (2, .int (i32 (y : Int))), (3, .int (i32 (n : Int))), (4, .int (i32 (51 * (51 * (ea : Int) + (y : Int)) + (n : Int)))), (5, .int (i32 (b : Int)))]) E.1 E.2.1 dX6_make_96 hl (by decide) rfl (fun ls hl => ?_)
                refine lv_iload E.1 E.2.1 dX6_make_98 (lv_at hl 6 rfl) ?_
                refine z_feq E 115 ⟨by omega, by omega⟩ dX6_make_100 (by decide) (fun h100_6 => ?_) (fun h100_6 => ?_)
                · refine lv_aload_n E.1 E.2.1 dX6_make_115 rfl (lv_at hl 1 rfl) ?_
                  refine z_get E X (lM_0 C cA am S T) rfl iX6 14 (by decide) (by decide +kernel) (v := .ref (am 14)) rfl dX6_make_116 ?_
                  refine lv_iload E.1 E.2.1 dX6_make_119 (lv_at hl 5 rfl) ?_
                  refine lv_iload E.1 E.2.1 dX6_make_121 (lv_at hl 0 rfl) ?_
                  refine z_iast E X (lM_14 C cA am S T) (51 * (51 * ea + y) + n) (by omega) (by omega) (by decide) dX6_make_123 (fun H locs X => ?_)
                  have X := ma_14 X
                  refine lv_aload_n E.1 E.2.1 dX6_make_124 rfl (lv_at hl 1 rfl) ?_
                  refine z_get E X (lM_0 C cA am S (zs T 14 (51 * (51 * ea + y) + n) (tw S ea n y b))) rfl iX6 15 (by decide) (by decide +kernel) (v := .ref (am 15)) rfl dX6_make_125 ?_
                  refine lv_iload E.1 E.2.1 dX6_make_128 (lv_at hl 5 rfl) ?_
                  refine lv_iload E.1 E.2.1 dX6_make_130 (lv_at hl 6 rfl) ?_
                  refine z_iast E X (lM_15 C cA am S (zs T 14 (51 * (51 * ea + y) + n) (tw S ea n y b))) (51 * (51 * ea + y) + n) (by omega) (by omega) (by decide) dX6_make_132 (fun H locs X => ?_)
                  have X := ma_15 X
                  refine z_iinc (lv' := [(5, .int (i32 ((b + 1 : Nat) : Int))), (6, .int (i32 (tw S ea n y b))), (0, .ref (am 0)), (1, .int (i32 (ea : Int))), (2, .int (i32 (y : Int))), (3, .int (i32 (n : Int))), (4, .int (i32 (51 * (51 * (ea : Int) + (y : Int)) + (n : Int))))]) E dX6_make_133 hl (k := 6) rfl (by decide) rfl (fun ls hl => ?_)
                  refine lv_goto (tgt := 51) E.1 E.2.1 dX6_make_136 (by decide) ?_
                  exact ih51 (b + 1) (zs (zs T 14 (51 * (51 * ea + y) + n) (tw S ea n y b)) 15 (51 * (51 * ea + y) + n) (b : Int)) _ _ _ (by omega) (by omega) (mkI_write hT (by omega) (by omega)) X (lv_sub hl [2, 3, 4, 5, 6, 0] rfl)
                · have hm := (hT.2.2.2 (by omega)).1
                  have hmr : 0 ≤ minb (tw S ea n y) (b - 1) ∧ minb (tw S ea n y) (b - 1) ≤ 2046 := ⟨minb_ge (fun k hk => (tw_rng hI.1 hI.2.1 he (by omega) hy (by omega)).1), Int.le_trans (minb_le (k := 0) (Nat.zero_le _)) (tw_rng hI.1 hI.2.1 he (by omega) hy (by omega)).2⟩
                  have hb1 := tw_rng (x := n) (b := b) hI.1 hI.2.1 he (by omega) hy (by omega)
                  refine lv_iload E.1 E.2.1 dX6_make_103 (lv_at hl 0 rfl) ?_
                  refine lv_aload_n E.1 E.2.1 dX6_make_105 rfl (lv_at hl 1 rfl) ?_
                  refine z_get E X (lM_0 C cA am S T) rfl iX6 14 (by decide) (by decide +kernel) (v := .ref (am 14)) rfl dX6_make_106 ?_
                  refine lv_iload E.1 E.2.1 dX6_make_109 (lv_at hl 5 rfl) ?_
                  refine z_iald E X (lM_14 C cA am S T) (51 * (51 * ea + y) + n) (by omega) (by omega) (by decide) dX6_make_111 ?_
                  refine z_cge E 133 ⟨by omega, by omega⟩ ⟨by omega, by omega⟩ dX6_make_112 (by decide) (fun h112_7 => ?_) (fun h112_7 => ?_)
                  · refine z_iinc (lv' := [(5, .int (i32 ((b + 1 : Nat) : Int))), (6, .int (i32 (tw S ea n y b))), (0, .ref (am 0)), (1, .int (i32 (ea : Int))), (2, .int (i32 (y : Int))), (3, .int (i32 (n : Int))), (4, .int (i32 (51 * (51 * (ea : Int) + (y : Int)) + (n : Int))))]) E dX6_make_133 hl (k := 6) rfl (by decide) rfl (fun ls hl => ?_)
                    refine lv_goto (tgt := 51) E.1 E.2.1 dX6_make_136 (by decide) ?_
                    exact ih51 (b + 1) T _ _ _ (by omega) (by omega) (mkI_keep hT (by omega) (by omega)) X (lv_sub hl [2, 3, 4, 5, 6, 0] rfl)
                  · refine lv_aload_n E.1 E.2.1 dX6_make_115 rfl (lv_at hl 1 rfl) ?_
                    refine z_get E X (lM_0 C cA am S T) rfl iX6 14 (by decide) (by decide +kernel) (v := .ref (am 14)) rfl dX6_make_116 ?_
                    refine lv_iload E.1 E.2.1 dX6_make_119 (lv_at hl 5 rfl) ?_
                    refine lv_iload E.1 E.2.1 dX6_make_121 (lv_at hl 0 rfl) ?_
                    refine z_iast E X (lM_14 C cA am S T) (51 * (51 * ea + y) + n) (by omega) (by omega) (by decide) dX6_make_123 (fun H locs X => ?_)
                    have X := ma_14 X
                    refine lv_aload_n E.1 E.2.1 dX6_make_124 rfl (lv_at hl 1 rfl) ?_
                    refine z_get E X (lM_0 C cA am S (zs T 14 (51 * (51 * ea + y) + n) (tw S ea n y b))) rfl iX6 15 (by decide) (by decide +kernel) (v := .ref (am 15)) rfl dX6_make_125 ?_
                    refine lv_iload E.1 E.2.1 dX6_make_128 (lv_at hl 5 rfl) ?_
                    refine lv_iload E.1 E.2.1 dX6_make_130 (lv_at hl 6 rfl) ?_
                    refine z_iast E X (lM_15 C cA am S (zs T 14 (51 * (51 * ea + y) + n) (tw S ea n y b))) (51 * (51 * ea + y) + n) (by omega) (by omega) (by decide) dX6_make_132 (fun H locs X => ?_)
                    have X := ma_15 X
                    refine z_iinc (lv' := [(5, .int (i32 ((b + 1 : Nat) : Int))), (6, .int (i32 (tw S ea n y b))), (0, .ref (am 0)), (1, .int (i32 (ea : Int))), (2, .int (i32 (y : Int))), (3, .int (i32 (n : Int))), (4, .int (i32 (51 * (51 * (ea : Int) + (y : Int)) + (n : Int))))]) E dX6_make_133 hl (k := 6) rfl (by decide) rfl (fun ls hl => ?_)
                    refine lv_goto (tgt := 51) E.1 E.2.1 dX6_make_136 (by decide) ?_
                    exact ih51 (b + 1) (zs (zs T 14 (51 * (51 * ea + y) + n) (tw S ea n y b)) 15 (51 * (51 * ea + y) + n) (b : Int)) _ _ _ (by omega) (by omega) (mkI_write hT (by omega) (by omega)) X (lv_sub hl [2, 3, 4, 5, 6, 0] rfl)
          exact key51 ((51 - 0) + 1) 0 T _ _ _ (by omega) (by omega) hT X (lv_sub hl [2, 3, 4, 5, 1, 0] rfl)
    exact key29 ((51 - 0) + 1) 0 (zs U 16 (51 * ea + y) 1) _ _ _ (by omega) (by omega) (mkI_start S U ea y) X (lv_sub hl [1, 2, 3, 0] rfl)
  · exact z_retv E X hQ (⟨rfl, U, hC, (by rcases h16 with q | q <;> omega), X.1⟩) dX6_make_14

