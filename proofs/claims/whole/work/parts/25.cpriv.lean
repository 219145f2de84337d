abbrev rX5_found : Room := { frames := 0, cells := 0, slots := 0, locals := 0 }
set_option maxHeartbeats 4000000 in
set_option maxRecDepth 100000 in
theorem x_found (l : Launch) (D : va_G) (cA : Nat → ClassId) (B0 : Nat) (M : zL) (a : Nat → Nat → Nat) (G : zG) (S : zS) (x : Int) : zM l yX5_found wsX5_found rX5_found [.ref (a 0 0), .int (i32 x)] D cA B0 (zW D B0 (zj (layC cA a G S) M)) (fun v H => v = some (.int (i32 x)) ∧ zW D B0 (zj (layC cA a G (zs S 27 0 (S 27 0 + 1))) M) H) := by
  refine z_met (cc := cX5_found) (maxL := 2) (ret := (some .int)) (by decide) rfl (Nat.le_of_ble_eq_true rfl) ?_
  intro p e s m args below meth c ls Q hQ E hP hB hS hl
  have hl : lv_has ls 2 [(0, .ref (a 0 0)), (1, .int (i32 x))] := hl
  have iX5 : ∀ w ∈ u_ws RX5 TX5 11, w ∈ wsX5_found := by decide +kernel
  have X : zX D B0 (zj (layC cA a G S) M) s.heap s.heap [] := ⟨hP, hS⟩
  refine lv_aload_n E.1 E.2.1 dX5_found_0 rfl (lv_at hl 0 rfl) ?_
  refine lv_dup E.1 E.2.1 dX5_found_1 rfl ?_
  refine z_get E X (lC_0 M cA a G S) rfl iX5 9 (by decide) (by decide +kernel) (v := .int (i32 (S 27 0))) rfl dX5_found_2 ?_
  refine z_iconst E dX5_found_5 ?_
  refine z_iadd E dX5_found_6 ?_
  refine z_put E X (lC_0 M cA a G S) rfl iX5 tyX5 tyX5_ok nmX5 9 (by decide) (by decide +kernel) rfl rfl rfl (Nat.le_of_ble_eq_true rfl) dX5_found_7 (fun H locs X => ?_)
  have X := cw_findings X
  refine lv_iload_n E.1 E.2.1 dX5_found_10 rfl (lv_at hl 1 rfl) ?_
  exact z_ret E X hQ (⟨rfl, X.1⟩) dX5_found_11

abbrev rX5_elementNumbered : Room := { frames := 0, cells := 0, slots := 0, locals := 0 }
set_option maxHeartbeats 4000000 in
set_option maxRecDepth 100000 in
theorem x_en (l : Launch) (D : va_G) (cA : Nat → ClassId) (B0 : Nat) (M : zL) (a : Nat → Nat → Nat) (G : zG) (S : zS) (hI : SI0 S) (x : Int) (hx : zr x) : zM l yX5_elementNumbered wsX5_elementNumbered rX5_elementNumbered [.ref (a 0 0), .int (i32 x)] D cA B0 (zW D B0 (zj (layC cA a G S) M)) (fun v H => ((∃ n : Nat, x = (n : Int) ∧ (n : Int) < S 5 0 ∧ v = some (.ref (a 10 n))) ∨ (¬ (0 ≤ x ∧ x < S 5 0) ∧ v = some .null)) ∧ zW D B0 (zj (layC cA a G S) M) H) := by
  refine z_met (cc := cX5_elementNumbered) (maxL := 2) (ret := (some (.object "EchoRow$Element"))) (by decide) rfl (Nat.le_of_ble_eq_true rfl) ?_
  intro p e s m args below meth c ls Q hQ E hP hB hS hl
  have hl : lv_has ls 2 [(0, .ref (a 0 0)), (1, .int (i32 x))] := hl
  have iX5 : ∀ w ∈ u_ws RX5 TX5 11, w ∈ wsX5_elementNumbered := by decide +kernel
  have X : zX D B0 (zj (layC cA a G S) M) s.heap s.heap [] := ⟨hP, hS⟩
  unfold zr at hx
  have hI0 := hI
  unfold SI0 at hI0
  obtain ⟨b1, b2, b3, b4, b5, b8, b17, b19, b7⟩ := hI0
  refine lv_iload_n E.1 E.2.1 dX5_elementNumbered_0 rfl (lv_at hl 1 rfl) ?_
  refine z_flt E 13 ⟨by omega, by omega⟩ dX5_elementNumbered_1 (by decide) (fun h1_1 => ?_) (fun h1_1 => ?_)
  · refine lv_null E.1 E.2.1 dX5_elementNumbered_13 ?_
    refine lv_goto (tgt := 23) E.1 E.2.1 dX5_elementNumbered_14 (by decide) ?_
    exact z_reta E X hQ (Or.inl rfl) ⟨Or.inr ⟨by omega, rfl⟩, X.1⟩ dX5_elementNumbered_23
  · refine lv_iload_n E.1 E.2.1 dX5_elementNumbered_4 rfl (lv_at hl 1 rfl) ?_
    refine lv_aload_n E.1 E.2.1 dX5_elementNumbered_5 rfl (lv_at hl 0 rfl) ?_
    refine z_get E X (lC_0 M cA a G S) rfl iX5 1 (by decide) (by decide +kernel) (v := .ref (a 4 0)) rfl dX5_elementNumbered_6 ?_
    refine z_alen (z := 8) E X 2 (lC_4 M cA a G S) rfl (by omega) dX5_elementNumbered_9 ?_
    refine z_clt E 17 ⟨by omega, by omega⟩ ⟨by omega, by omega⟩ dX5_elementNumbered_10 (by decide) (fun h10_2 => ?_) (fun h10_2 => ?_)
    · obtain ⟨n, rfl⟩ : ∃ n : Nat, x = (n : Int) := ⟨x.toNat, by omega⟩
      refine lv_aload_n E.1 E.2.1 dX5_elementNumbered_17 rfl (lv_at hl 0 rfl) ?_
      refine z_get E X (lC_0 M cA a G S) rfl iX5 1 (by decide) (by decide +kernel) (v := .ref (a 4 0)) rfl dX5_elementNumbered_18 ?_
      refine lv_iload_n E.1 E.2.1 dX5_elementNumbered_21 rfl (lv_at hl 1 rfl) ?_
      by_cases hp_3 : ((n : Nat) : Int) < S 5 0
      · refine z_aldS (C := "EchoRow$Element") E X 2 (lC_4 M cA a G S) rfl n (by omega) (by omega) (by decide) (if_pos hp_3) dX5_elementNumbered_22 ?_
        exact z_reta E X hQ (Or.inr ⟨_, rfl⟩) ⟨Or.inl ⟨n, rfl, by omega, rfl⟩, X.1⟩ dX5_elementNumbered_23
      · refine z_aldN (C := "EchoRow$Element") E X 2 (lC_4 M cA a G S) rfl n (by omega) (by omega) (by decide) (if_neg hp_3) dX5_elementNumbered_22 ?_
        exact z_reta E X hQ (Or.inl rfl) ⟨Or.inr ⟨by omega, rfl⟩, X.1⟩ dX5_elementNumbered_23
    · refine lv_null E.1 E.2.1 dX5_elementNumbered_13 ?_
      refine lv_goto (tgt := 23) E.1 E.2.1 dX5_elementNumbered_14 (by decide) ?_
      exact z_reta E X hQ (Or.inl rfl) ⟨Or.inr ⟨by omega, rfl⟩, X.1⟩ dX5_elementNumbered_23

abbrev rX5_targetNumbered : Room := { frames := 0, cells := 0, slots := 0, locals := 0 }
set_option maxHeartbeats 4000000 in
set_option maxRecDepth 100000 in
theorem x_tn (l : Launch) (D : va_G) (cA : Nat → ClassId) (B0 : Nat) (M : zL) (a : Nat → Nat → Nat) (G : zG) (S : zS) (hI : SI0 S) (x : Int) (hx : zr x) : zM l yX5_targetNumbered wsX5_targetNumbered rX5_targetNumbered [.ref (a 0 0), .int (i32 x)] D cA B0 (zW D B0 (zj (layC cA a G S) M)) (fun v H => ((∃ n : Nat, x = (n : Int) ∧ (n : Int) < S 8 0 ∧ v = some (.ref (a 12 n))) ∨ (¬ (0 ≤ x ∧ x < S 8 0) ∧ v = some .null)) ∧ zW D B0 (zj (layC cA a G S) M) H) := by
  refine z_met (cc := cX5_targetNumbered) (maxL := 2) (ret := (some (.object "EchoRow$Target"))) (by decide) rfl (Nat.le_of_ble_eq_true rfl) ?_
  intro p e s m args below meth c ls Q hQ E hP hB hS hl
  have hl : lv_has ls 2 [(0, .ref (a 0 0)), (1, .int (i32 x))] := hl
  have iX5 : ∀ w ∈ u_ws RX5 TX5 11, w ∈ wsX5_targetNumbered := by decide +kernel
  have X : zX D B0 (zj (layC cA a G S) M) s.heap s.heap [] := ⟨hP, hS⟩
  unfold zr at hx
  have hI0 := hI
  unfold SI0 at hI0
  obtain ⟨b1, b2, b3, b4, b5, b8, b17, b19, b7⟩ := hI0
  refine lv_iload_n E.1 E.2.1 dX5_targetNumbered_0 rfl (lv_at hl 1 rfl) ?_
  refine z_flt E 13 ⟨by omega, by omega⟩ dX5_targetNumbered_1 (by decide) (fun h1_1 => ?_) (fun h1_1 => ?_)
  · refine lv_null E.1 E.2.1 dX5_targetNumbered_13 ?_
    refine lv_goto (tgt := 23) E.1 E.2.1 dX5_targetNumbered_14 (by decide) ?_
    exact z_reta E X hQ (Or.inl rfl) ⟨Or.inr ⟨by omega, rfl⟩, X.1⟩ dX5_targetNumbered_23
  · refine lv_iload_n E.1 E.2.1 dX5_targetNumbered_4 rfl (lv_at hl 1 rfl) ?_
    refine lv_aload_n E.1 E.2.1 dX5_targetNumbered_5 rfl (lv_at hl 0 rfl) ?_
    refine z_get E X (lC_0 M cA a G S) rfl iX5 2 (by decide) (by decide +kernel) (v := .ref (a 5 0)) rfl dX5_targetNumbered_6 ?_
    refine z_alen (z := 8) E X 3 (lC_5 M cA a G S) rfl (by omega) dX5_targetNumbered_9 ?_
    refine z_clt E 17 ⟨by omega, by omega⟩ ⟨by omega, by omega⟩ dX5_targetNumbered_10 (by decide) (fun h10_2 => ?_) (fun h10_2 => ?_)
    · obtain ⟨n, rfl⟩ : ∃ n : Nat, x = (n : Int) := ⟨x.toNat, by omega⟩
      refine lv_aload_n E.1 E.2.1 dX5_targetNumbered_17 rfl (lv_at hl 0 rfl) ?_
      refine z_get E X (lC_0 M cA a G S) rfl iX5 2 (by decide) (by decide +kernel) (v := .ref (a 5 0)) rfl dX5_targetNumbered_18 ?_
      refine lv_iload_n E.1 E.2.1 dX5_targetNumbered_21 rfl (lv_at hl 1 rfl) ?_
      by_cases hp_3 : ((n : Nat) : Int) < S 8 0
      · refine z_aldS (C := "EchoRow$Target") E X 3 (lC_5 M cA a G S) rfl n (by omega) (by omega) (by decide) (if_pos hp_3) dX5_targetNumbered_22 ?_
        exact z_reta E X hQ (Or.inr ⟨_, rfl⟩) ⟨Or.inl ⟨n, rfl, by omega, rfl⟩, X.1⟩ dX5_targetNumbered_23
      · refine z_aldN (C := "EchoRow$Target") E X 3 (lC_5 M cA a G S) rfl n (by omega) (by omega) (by decide) (if_neg hp_3) dX5_targetNumbered_22 ?_
        exact z_reta E X hQ (Or.inl rfl) ⟨Or.inr ⟨by omega, rfl⟩, X.1⟩ dX5_targetNumbered_23
    · refine lv_null E.1 E.2.1 dX5_targetNumbered_13 ?_
      refine lv_goto (tgt := 23) E.1 E.2.1 dX5_targetNumbered_14 (by decide) ?_
      exact z_reta E X hQ (Or.inl rfl) ⟨Or.inr ⟨by omega, rfl⟩, X.1⟩ dX5_targetNumbered_23

theorem cl_un {D : va_G} {B0 : Nat} {M : zL} {cA : Nat → ClassId} {a : Nat → Nat → Nat} {G : zG} {S : zS} {H0 H : Heap} {locs : List Loc} (X : zX D B0 (zl (layL cA (hL a) (TL S G)) (zj (layC cA a G S) M)) H0 H locs) : zX D B0 (zj (layC cA a G S) M) H0 H locs :=
  X.to (zl_at (fun _ => rfl) (fun _ => rfl) (fun _ => rfl) (fun _ => rfl) (fun _ => rfl) (fun _ _ _ _ _ _ _ => rfl))
abbrev rX5_depthOf : Room := { frames := 1, cells := 0, slots := 0, locals := 20 }
set_option maxHeartbeats 4000000 in
set_option maxRecDepth 100000 in
theorem x_depthOf (l : Launch) (D : va_G) (cA : Nat → ClassId) (B0 : Nat) (M : zL) (a : Nat → Nat → Nat) (G : zG) (S : zS) (hI : SI S) (hG : CG S G) (t : Nat) (ht : (t : Int) < S 8 0) : zM l yX5_depthOf wsX5_depthOf rX5_depthOf [.ref (a 0 0), .ref (a 12 t)] D cA B0 (zW D B0 (zj (layC cA a G S) M)) (fun v H => v = some (.int (i32 (dep S t))) ∧ zW D B0 (zj (layC cA a G S) M) H) := by
  refine z_met (cc := cX5_depthOf) (maxL := 2) (ret := (some .int)) (by decide) rfl (Nat.le_of_ble_eq_true rfl) ?_
  intro p e s m args below meth c ls Q hQ E hP hB hS hl
  have hl : lv_has ls 2 [(0, .ref (a 0 0)), (1, .ref (a 12 t))] := hl
  have iX3 : ∀ w ∈ u_ws RX3 TX3 6, w ∈ wsX5_depthOf := by decide +kernel
  have iX5 : ∀ w ∈ u_ws RX5 TX5 11, w ∈ wsX5_depthOf := by decide +kernel
  have X : zX D B0 (zj (layC cA a G S) M) s.heap s.heap [] := ⟨hP, hS⟩
  have hI0 := hI.1
  unfold SI0 at hI0
  obtain ⟨b1, b2, b3, b4, b5, b8, b17, b19, b7⟩ := hI0
  have ht2 := hI.2.2.1 t ht
  refine lv_aload_n E.1 E.2.1 dX5_depthOf_0 rfl (lv_at hl 1 rfl) ?_
  refine z_get E X (lC_12 M cA a G S t (by omega)) rfl iX3 0 (by decide) (by decide +kernel) (v := .int (i32 (S 9 t))) rfl dX5_depthOf_1 ?_
  refine z_iconst E dX5_depthOf_4 ?_
  refine z_cne E 18 ⟨by omega, by omega⟩ ⟨by omega, by omega⟩ dX5_depthOf_5 (by decide) (fun h5_1 => ?_) (fun h5_1 => ?_)
  · refine lv_aload_n E.1 E.2.1 dX5_depthOf_18 rfl (lv_at hl 1 rfl) ?_
    refine z_get E X (lC_12 M cA a G S t (by omega)) rfl iX3 3 (by decide) (by decide +kernel) (v := .int (i32 (if S 9 t = 2 then 0 else S 12 t))) rfl dX5_depthOf_19 ?_
    have ed : (if S 9 t = 2 then 0 else S 12 t) = dep S t := by
      unfold dep
      repeat' split
      all_goals omega
    exact z_ret E X hQ (⟨congrArg (fun w => some (Value.int (i32 w))) ed, X.1⟩) dX5_depthOf_22
  · refine lv_aload_n E.1 E.2.1 dX5_depthOf_8 rfl (lv_at hl 0 rfl) ?_
    refine z_get E X (lC_0 M cA a G S) rfl iX5 0 (by decide) (by decide +kernel) (v := .ref (a 1 0)) rfl dX5_depthOf_9 ?_
    replace X := cl_in X
    refine z_callV (As := []) (rest := []) (n := 0) E X (lL_0 _ cA (hL a) (TL S G)) rfl (L_floor l D cA B0 (zj (layC cA a G S) M) (hL a) (TL S G)) gX5_depthOf_X1_floor rfl (by decide +kernel) ⟨by decide, by decide⟩ rfl hl.1 rfl (Nat.le_of_ble_eq_true rfl) dX5_depthOf_12 ⟨by decide, by decide⟩ X.1 0 0 ⟨rfl, rfl⟩ (fun v H locs hv hS_2 => ?_)
    obtain ⟨rfl, hw⟩ := hv
    replace X : zX D B0 (zj (layC cA a G S) M) s.heap H locs := cl_un ⟨hw, hS_2⟩
    refine z_top ((S 1 0) + (S 2 0)) rfl ?_
    refine lv_goto (tgt := 22) E.1 E.2.1 dX5_depthOf_15 (by decide) ?_
    have ed : ((S 1 0) + (S 2 0)) = dep S t := by
      unfold dep
      repeat' split
      all_goals omega
    exact z_ret E X hQ (⟨congrArg (fun w => some (Value.int (i32 w))) ed, X.1⟩) dX5_depthOf_22

abbrev rX5_countWorking : Room := { frames := 0, cells := 0, slots := 0, locals := 0 }
set_option maxHeartbeats 4000000 in
set_option maxRecDepth 100000 in
theorem x_countWorking (l : Launch) (D : va_G) (cA : Nat → ClassId) (B0 : Nat) (M : zL) (a : Nat → Nat → Nat) (G : zG) (S : zS) (hI : SI0 S) : zM l yX5_countWorking wsX5_countWorking rX5_countWorking [.ref (a 0 0)] D cA B0 (zW D B0 (zj (layC cA a G S) M)) (fun v H => v = some (.int (i32 (WK S))) ∧ zW D B0 (zj (layC cA a G S) M) H) := by
  refine z_met (cc := cX5_countWorking) (maxL := 6) (ret := (some .int)) (by decide) rfl (Nat.le_of_ble_eq_true rfl) ?_
  intro p e s m args below meth c ls Q hQ E hP hB hS hl
  have hl : lv_has ls 6 [(0, .ref (a 0 0))] := hl
  have iX0 : ∀ w ∈ u_ws RX0 TX0 4, w ∈ wsX5_countWorking := by decide +kernel
  have iX5 : ∀ w ∈ u_ws RX5 TX5 11, w ∈ wsX5_countWorking := by decide +kernel
  have X : zX D B0 (zj (layC cA a G S) M) s.heap s.heap [] := ⟨hP, hS⟩
  have hI0 := hI
  unfold SI0 at hI0
  obtain ⟨b1, b2, b3, b4, b5, b8, b17, b19, b7⟩ := hI0
  refine z_iconst E dX5_countWorking_0 ?_
  refine z_top (sumn (cut (S 5 0) (fun q => 1 - S 7 q)) 0) (rfl) ?_
  refine lv_istore_n (lv' := [(1, .int (i32 (sumn (cut (S 5 0) (fun q => 1 - S 7 q)) 0))), (0, .ref (a 0 0))]) E.1 E.2.1 dX5_countWorking_1 rfl hl (by decide) rfl (fun ls hl => ?_)
  refine lv_aload_n E.1 E.2.1 dX5_countWorking_2 rfl (lv_at hl 1 rfl) ?_
  refine z_get E X (lC_0 M cA a G S) rfl iX5 1 (by decide) (by decide +kernel) (v := .ref (a 4 0)) rfl dX5_countWorking_3 ?_
  refine lv_astore_n (lv' := [(2, .ref (a 4 0)), (1, .int (i32 (sumn (cut (S 5 0) (fun q => 1 - S 7 q)) 0))), (0, .ref (a 0 0))]) E.1 E.2.1 dX5_countWorking_6 rfl hl (by decide) rfl (fun ls hl => ?_)
  refine lv_aload_n E.1 E.2.1 dX5_countWorking_7 rfl (lv_at hl 0 rfl) ?_
  refine z_alen (z := 8) E X 2 (lC_4 M cA a G S) rfl (by omega) dX5_countWorking_8 ?_
  refine lv_istore_n (lv' := [(3, .int (i32 8)), (2, .ref (a 4 0)), (1, .int (i32 (sumn (cut (S 5 0) (fun q => 1 - S 7 q)) 0))), (0, .ref (a 0 0))]) E.1 E.2.1 dX5_countWorking_9 rfl hl (by decide) rfl (fun ls hl => ?_)
  refine z_iconst E dX5_countWorking_10 ?_
  refine z_top (0 : Int) (rfl) ?_
  refine lv_istore (lv' := [(4, .int (i32 (0 : Int))), (3, .int (i32 8)), (2, .ref (a 4 0)), (1, .int (i32 (sumn (cut (S 5 0) (fun q => 1 - S 7 q)) 0))), (0, .ref (a 0 0))]) E.1 E.2.1 dX5_countWorking_11 hl (by decide) rfl (fun ls hl => ?_)
  have key13 : ∀ (N : Nat) (n : Nat) (H : Heap) (locs : List Loc) (ls : Array Slot), (8 - n) < N → (n ≤ 8) → zX D B0 (zj (layC cA a G S) M) s.heap H locs → lv_has ls 6 [(0, .ref (a 0 0)), (1, .int (i32 (sumn (cut (S 5 0) (fun q => 1 - S 7 q)) n))), (2, .ref (a 4 0)), (3, .int (i32 8)), (4, .int (i32 (n : Int)))] → W p l e rX5_countWorking s m args below meth c H locs 0 0 Q (F0 m 13 ls []) := by
    intro N
    induction N with
    | zero => intros; omega
    | succ N ih13 =>
      intro n H locs ls hN hn X hl
      refine lv_iload E.1 E.2.1 dX5_countWorking_13 (lv_at hl 4 rfl) ?_
      refine lv_iload_n E.1 E.2.1 dX5_countWorking_15 rfl (lv_at hl 3 rfl) ?_
      refine z_cge E 47 ⟨by omega, by omega⟩ ⟨by omega, by omega⟩ dX5_countWorking_16 (by decide) (fun h16_1 => ?_) (fun h16_1 => ?_)
      · refine lv_iload_n E.1 E.2.1 dX5_countWorking_47 rfl (lv_at hl 1 rfl) ?_
        exact z_ret E X hQ (⟨by rw [cut_end (by omega) (by omega)]; rfl, X.1⟩) dX5_countWorking_48
      · have l1 := b7 n
        refine lv_aload_n E.1 E.2.1 dX5_countWorking_19 rfl (lv_at hl 2 rfl) ?_
        refine lv_iload E.1 E.2.1 dX5_countWorking_20 (lv_at hl 4 rfl) ?_
        by_cases hp_2 : ((n : Nat) : Int) < S 5 0
        · refine z_aldS (C := "EchoRow$Element") E X 2 (lC_4 M cA a G S) rfl n (by omega) (by omega) (by decide) (if_pos hp_2) dX5_countWorking_22 ?_
          refine lv_astore (lv' := [(5, .ref (a 10 n)), (0, .ref (a 0 0)), (1, .int (i32 (sumn (cut (S 5 0) (fun q => 1 - S 7 q)) n))), (2, .ref (a 4 0)), (3, .int (i32 8)), (4, .int (i32 (n : Int)))]) E.1 E.2.1 dX5_countWorking_23 hl (by decide) rfl (fun ls hl => ?_)
          refine lv_aload E.1 E.2.1 dX5_countWorking_25 (lv_at hl 0 rfl) ?_
          refine lv_ifnull E.1 E.2.1 dX5_countWorking_27 ?_
          refine lv_aload E.1 E.2.1 dX5_countWorking_30 (lv_at hl 0 rfl) ?_
          refine z_get E X (lC_10 M cA a G S n (by omega)) rfl iX0 2 (by decide) (by decide +kernel) (v := .int (i32 (1 - S 7 n))) rfl dX5_countWorking_32 ?_
          refine z_feq E 41 ⟨by omega, by omega⟩ dX5_countWorking_35 (by decide) (fun h35_3 => ?_) (fun h35_3 => ?_)
          · have ec1 : sumn (cut (S 5 0) (fun q => 1 - S 7 q)) (n + 1) = sumn (cut (S 5 0) (fun q => 1 - S 7 q)) n := by
              rw [cut_S]
              split <;> omega
            have hl : lv_has ls 6 [(5, .ref (a 10 n)), (0, .ref (a 0 0)), (1, .int (i32 (sumn (cut (S 5 0) (fun q => 1 - S 7 q)) (n + 1)))), (2, .ref (a 4 0)), (3, .int (i32 8)), (4, .int (i32 (n : Int)))] := by rw [ec1]; exact hl
            refine z_iinc (lv' := [(4, .int (i32 ((n + 1 : Nat) : Int))), (5, .ref (a 10 n)), (0, .ref (a 0 0)), (1, .int (i32 (sumn (cut (S 5 0) (fun q => 1 - S 7 q)) (n + 1)))), (2, .ref (a 4 0)), (3, .int (i32 8))]) E dX5_countWorking_41 hl (k := 5) rfl (by decide) rfl (fun ls hl => ?_)
            refine lv_goto (tgt := 13) E.1 E.2.1 dX5_countWorking_44 (by decide) ?_
            exact ih13 (n + 1) _ _ _ (by omega) (by omega) X (lv_sub hl [2, 3, 4, 5, 0] rfl)
          · refine z_iinc (lv' := [(1, .int (i32 ((sumn (cut (S 5 0) (fun q => 1 - S 7 q)) n) + 1))), (5, .ref (a 10 n)), (0, .ref (a 0 0)), (2, .ref (a 4 0)), (3, .int (i32 8)), (4, .int (i32 (n : Int)))]) E dX5_countWorking_38 hl (k := 2) rfl (by decide) rfl (fun ls hl => ?_)
            have ec1 : sumn (cut (S 5 0) (fun q => 1 - S 7 q)) (n + 1) = (sumn (cut (S 5 0) (fun q => 1 - S 7 q)) n) + 1 := by
              rw [cut_S]
              split <;> omega
            have hl : lv_has ls 6 [(1, .int (i32 (sumn (cut (S 5 0) (fun q => 1 - S 7 q)) (n + 1)))), (5, .ref (a 10 n)), (0, .ref (a 0 0)), (2, .ref (a 4 0)), (3, .int (i32 8)), (4, .int (i32 (n : Int)))] := by rw [ec1]; exact hl
            refine z_iinc (lv' := [(4, .int (i32 ((n + 1 : Nat) : Int))), (1, .int (i32 (sumn (cut (S 5 0) (fun q => 1 - S 7 q)) (n + 1)))), (5, .ref (a 10 n)), (0, .ref (a 0 0)), (2, .ref (a 4 0)), (3, .int (i32 8))]) E dX5_countWorking_41 hl (k := 5) rfl (by decide) rfl (fun ls hl => ?_)
            refine lv_goto (tgt := 13) E.1 E.2.1 dX5_countWorking_44 (by decide) ?_
            exact ih13 (n + 1) _ _ _ (by omega) (by omega) X (lv_sub hl [3, 1, 4, 5, 0] rfl)
        · refine z_aldN (C := "EchoRow$Element") E X 2 (lC_4 M cA a G S) rfl n (by omega) (by omega) (by decide) (if_neg hp_2) dX5_countWorking_22 ?_
          refine lv_astoreN (lv' := [(5, .null), (0, .ref (a 0 0)), (1, .int (i32 (sumn (cut (S 5 0) (fun q => 1 - S 7 q)) n))), (2, .ref (a 4 0)), (3, .int (i32 8)), (4, .int (i32 (n : Int)))]) E.1 E.2.1 dX5_countWorking_23 hl (by decide) rfl (fun ls hl => ?_)
          refine lv_aloadN E.1 E.2.1 dX5_countWorking_25 (lv_at hl 0 rfl) ?_
          refine lv_ifnullN (tgt := 41) E.1 E.2.1 dX5_countWorking_27 (by decide) ?_
          have ec1 : sumn (cut (S 5 0) (fun q => 1 - S 7 q)) (n + 1) = sumn (cut (S 5 0) (fun q => 1 - S 7 q)) n := by
            rw [cut_S]
            split <;> omega
          have hl : lv_has ls 6 [(5, .null), (0, .ref (a 0 0)), (1, .int (i32 (sumn (cut (S 5 0) (fun q => 1 - S 7 q)) (n + 1)))), (2, .ref (a 4 0)), (3, .int (i32 8)), (4, .int (i32 (n : Int)))] := by rw [ec1]; exact hl
          refine z_iinc (lv' := [(4, .int (i32 ((n + 1 : Nat) : Int))), (5, .null), (0, .ref (a 0 0)), (1, .int (i32 (sumn (cut (S 5 0) (fun q => 1 - S 7 q)) (n + 1)))), (2, .ref (a 4 0)), (3, .int (i32 8))]) E dX5_countWorking_41 hl (k := 5) rfl (by decide) rfl (fun ls hl => ?_)
          refine lv_goto (tgt := 13) E.1 E.2.1 dX5_countWorking_44 (by decide) ?_
          exact ih13 (n + 1) _ _ _ (by omega) (by omega) X (lv_sub hl [2, 3, 4, 5, 0] rfl)
  exact key13 ((8 - 0) + 1) 0 _ _ _ (by omega) (by omega) X (lv_sub hl [4, 3, 2, 1, 0] rfl)

abbrev rX5_countSheets : Room := { frames := 0, cells := 0, slots := 0, locals := 0 }
set_option maxHeartbeats 4000000 in
set_option maxRecDepth 100000 in
theorem x_countSheets (l : Launch) (D : va_G) (cA : Nat → ClassId) (B0 : Nat) (M : zL) (a : Nat → Nat → Nat) (G : zG) (S : zS) : zM l yX5_countSheets wsX5_countSheets rX5_countSheets [.ref (a 0 0)] D cA B0 (zW D B0 (zj (layC cA a G S) M)) (fun v H => v = some (.int (i32 (shn S))) ∧ zW D B0 (zj (layC cA a G S) M) H) := by
  refine z_met (cc := cX5_countSheets) (maxL := 6) (ret := (some .int)) (by decide) rfl (Nat.le_of_ble_eq_true rfl) ?_
  intro p e s m args below meth c ls Q hQ E hP hB hS hl
  have hl : lv_has ls 6 [(0, .ref (a 0 0))] := hl
  have iX5 : ∀ w ∈ u_ws RX5 TX5 11, w ∈ wsX5_countSheets := by decide +kernel
  have X : zX D B0 (zj (layC cA a G S) M) s.heap s.heap [] := ⟨hP, hS⟩
  refine z_iconst E dX5_countSheets_0 ?_
  refine z_top (sumn (fun q => if S 23 q < 0 then 0 else 1) 0) (rfl) ?_
  refine lv_istore_n (lv' := [(1, .int (i32 (sumn (fun q => if S 23 q < 0 then 0 else 1) 0))), (0, .ref (a 0 0))]) E.1 E.2.1 dX5_countSheets_1 rfl hl (by decide) rfl (fun ls hl => ?_)
  refine lv_aload_n E.1 E.2.1 dX5_countSheets_2 rfl (lv_at hl 1 rfl) ?_
  refine z_get E X (lC_0 M cA a G S) rfl iX5 4 (by decide) (by decide +kernel) (v := .ref (a 7 0)) rfl dX5_countSheets_3 ?_
  refine lv_astore_n (lv' := [(2, .ref (a 7 0)), (1, .int (i32 (sumn (fun q => if S 23 q < 0 then 0 else 1) 0))), (0, .ref (a 0 0))]) E.1 E.2.1 dX5_countSheets_6 rfl hl (by decide) rfl (fun ls hl => ?_)
  refine lv_aload_n E.1 E.2.1 dX5_countSheets_7 rfl (lv_at hl 0 rfl) ?_
  refine z_alen (z := 6) E X 5 (lC_7 M cA a G S) rfl (by omega) dX5_countSheets_8 ?_
  refine lv_istore_n (lv' := [(3, .int (i32 6)), (2, .ref (a 7 0)), (1, .int (i32 (sumn (fun q => if S 23 q < 0 then 0 else 1) 0))), (0, .ref (a 0 0))]) E.1 E.2.1 dX5_countSheets_9 rfl hl (by decide) rfl (fun ls hl => ?_)
  refine z_iconst E dX5_countSheets_10 ?_
  refine z_top (0 : Int) (rfl) ?_
  refine lv_istore (lv' := [(4, .int (i32 (0 : Int))), (3, .int (i32 6)), (2, .ref (a 7 0)), (1, .int (i32 (sumn (fun q => if S 23 q < 0 then 0 else 1) 0))), (0, .ref (a 0 0))]) E.1 E.2.1 dX5_countSheets_11 hl (by decide) rfl (fun ls hl => ?_)
  have key13 : ∀ (N : Nat) (n : Nat) (H : Heap) (locs : List Loc) (ls : Array Slot), (6 - n) < N → (n ≤ 6) → zX D B0 (zj (layC cA a G S) M) s.heap H locs → lv_has ls 6 [(0, .ref (a 0 0)), (1, .int (i32 (sumn (fun q => if S 23 q < 0 then 0 else 1) n))), (2, .ref (a 7 0)), (3, .int (i32 6)), (4, .int (i32 (n : Int)))] → W p l e rX5_countSheets s m args below meth c H locs 0 0 Q (F0 m 13 ls []) := by
    intro N
    induction N with
    | zero => intros; omega
    | succ N ih13 =>
      intro n H locs ls hN hn X hl
      refine lv_iload E.1 E.2.1 dX5_countSheets_13 (lv_at hl 4 rfl) ?_
      refine lv_iload_n E.1 E.2.1 dX5_countSheets_15 rfl (lv_at hl 3 rfl) ?_
      refine z_cge E 39 ⟨by omega, by omega⟩ ⟨by omega, by omega⟩ dX5_countSheets_16 (by decide) (fun h16_1 => ?_) (fun h16_1 => ?_)
      · refine lv_iload_n E.1 E.2.1 dX5_countSheets_39 rfl (lv_at hl 1 rfl) ?_
        exact z_ret E X hQ (⟨by rw [show n = 6 by omega]; rfl, X.1⟩) dX5_countSheets_40
      · refine lv_aload_n E.1 E.2.1 dX5_countSheets_19 rfl (lv_at hl 2 rfl) ?_
        refine lv_iload E.1 E.2.1 dX5_countSheets_20 (lv_at hl 4 rfl) ?_
        by_cases hp_2 : 0 ≤ S 23 n
        · refine z_aldS (C := "EchoRow$Sheet") E X 5 (lC_7 M cA a G S) rfl n (by omega) (by omega) (by decide) (if_pos hp_2) dX5_countSheets_22 ?_
          refine lv_astore (lv' := [(5, .ref (a 15 n)), (0, .ref (a 0 0)), (1, .int (i32 (sumn (fun q => if S 23 q < 0 then 0 else 1) n))), (2, .ref (a 7 0)), (3, .int (i32 6)), (4, .int (i32 (n : Int)))]) E.1 E.2.1 dX5_countSheets_23 hl (by decide) rfl (fun ls hl => ?_)
          refine lv_aload E.1 E.2.1 dX5_countSheets_25 (lv_at hl 0 rfl) ?_
          refine lv_ifnull E.1 E.2.1 dX5_countSheets_27 ?_
          refine z_iinc (lv' := [(1, .int (i32 ((sumn (fun q => if S 23 q < 0 then 0 else 1) n) + 1))), (5, .ref (a 15 n)), (0, .ref (a 0 0)), (2, .ref (a 7 0)), (3, .int (i32 6)), (4, .int (i32 (n : Int)))]) E dX5_countSheets_30 hl (k := 2) rfl (by decide) rfl (fun ls hl => ?_)
          have ec1 : sumn (fun q => if S 23 q < 0 then 0 else 1) (n + 1) = (sumn (fun q => if S 23 q < 0 then 0 else 1) n) + 1 := by
            rw [sumn_S]
            split <;> omega
          have hl : lv_has ls 6 [(1, .int (i32 (sumn (fun q => if S 23 q < 0 then 0 else 1) (n + 1)))), (5, .ref (a 15 n)), (0, .ref (a 0 0)), (2, .ref (a 7 0)), (3, .int (i32 6)), (4, .int (i32 (n : Int)))] := by rw [ec1]; exact hl
          refine z_iinc (lv' := [(4, .int (i32 ((n + 1 : Nat) : Int))), (1, .int (i32 (sumn (fun q => if S 23 q < 0 then 0 else 1) (n + 1)))), (5, .ref (a 15 n)), (0, .ref (a 0 0)), (2, .ref (a 7 0)), (3, .int (i32 6))]) E dX5_countSheets_33 hl (k := 5) rfl (by decide) rfl (fun ls hl => ?_)
          refine lv_goto (tgt := 13) E.1 E.2.1 dX5_countSheets_36 (by decide) ?_
          exact ih13 (n + 1) _ _ _ (by omega) (by omega) X (lv_sub hl [3, 1, 4, 5, 0] rfl)
        · refine z_aldN (C := "EchoRow$Sheet") E X 5 (lC_7 M cA a G S) rfl n (by omega) (by omega) (by decide) (if_neg hp_2) dX5_countSheets_22 ?_
          refine lv_astoreN (lv' := [(5, .null), (0, .ref (a 0 0)), (1, .int (i32 (sumn (fun q => if S 23 q < 0 then 0 else 1) n))), (2, .ref (a 7 0)), (3, .int (i32 6)), (4, .int (i32 (n : Int)))]) E.1 E.2.1 dX5_countSheets_23 hl (by decide) rfl (fun ls hl => ?_)
          refine lv_aloadN E.1 E.2.1 dX5_countSheets_25 (lv_at hl 0 rfl) ?_
          refine lv_ifnullN (tgt := 33) E.1 E.2.1 dX5_countSheets_27 (by decide) ?_
          have ec1 : sumn (fun q => if S 23 q < 0 then 0 else 1) (n + 1) = sumn (fun q => if S 23 q < 0 then 0 else 1) n := by
            rw [sumn_S]
            split <;> omega
          have hl : lv_has ls 6 [(5, .null), (0, .ref (a 0 0)), (1, .int (i32 (sumn (fun q => if S 23 q < 0 then 0 else 1) (n + 1)))), (2, .ref (a 7 0)), (3, .int (i32 6)), (4, .int (i32 (n : Int)))] := by rw [ec1]; exact hl
          refine z_iinc (lv' := [(4, .int (i32 ((n + 1 : Nat) : Int))), (5, .null), (0, .ref (a 0 0)), (1, .int (i32 (sumn (fun q => if S 23 q < 0 then 0 else 1) (n + 1)))), (2, .ref (a 7 0)), (3, .int (i32 6))]) E dX5_countSheets_33 hl (k := 5) rfl (by decide) rfl (fun ls hl => ?_)
          refine lv_goto (tgt := 13) E.1 E.2.1 dX5_countSheets_36 (by decide) ?_
          exact ih13 (n + 1) _ _ _ (by omega) (by omega) X (lv_sub hl [2, 3, 4, 5, 0] rfl)
  exact key13 ((6 - 0) + 1) 0 _ _ _ (by omega) (by omega) X (lv_sub hl [4, 3, 2, 1, 0] rfl)

