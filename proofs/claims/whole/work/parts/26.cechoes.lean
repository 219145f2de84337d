theorem EC_zero {S : zS} {a b : Nat} {tick : Int} (hI : SI S) (ha : (a : Int) < S 5 0) (hb : (b : Int) < S 5 0) (h : ¬ (S 7 a = 0 ∧ S 7 b = 0) ∨ tick < 0) : EC S a b tick = 0 := by
  unfold EC
  split
  · rename_i q
    have ht : tick < 0 := by
      rcases h with h | h
      · exact absurd q h
      · exact h
    have hz : ∀ n : Nat, (n : Int) ≤ S 8 0 → sumn (fec S a b tick) n = 0 := by
      intro n
      induction n with
      | zero => exact fun _ => rfl
      | succ n ih =>
        intro hn
        have := ET_rng (t := n) hI ha hb (by omega)
        rw [sumn_S, ih (by omega), fec, if_neg (by omega)]
        rfl
    have h8 := hI.1
    unfold SI0 at h8
    exact hz _ (by omega)
  · rfl
theorem alln_all {f : Nat → Bool} : ∀ {n : Nat}, (∀ k, k < n → f k = true) → alln f n = true := by
  intro n
  induction n with
  | zero => exact fun _ => rfl
  | succ n ih =>
    intro h
    rw [alln_S, ih (fun k hk => h k (by omega)), h n (by omega)]
    rfl
theorem SI_u {S : zS} (hI : SI S) : 1 ≤ S 3 0 ∧ S 3 0 ≤ 8 := by
  have h := hI.1
  unfold SI0 at h
  exact h.2.2.1
abbrev rX5_echoTimeBy : Room := { frames := 3, cells := 0, slots := 0, locals := 76 }
set_option maxHeartbeats 4000000 in
set_option maxRecDepth 100000 in
theorem x_echoTimeBy (l : Launch) (D : va_G) (cA : Nat → ClassId) (B0 : Nat) (M : zL) (a : Nat → Nat → Nat) (G : zG) (S : zS) (hI : SI S) (hG : CG S G) (ea eb t : Nat) (he : (ea : Int) < S 5 0) (hb : (eb : Int) < S 5 0) (ht : (t : Int) < S 8 0) : zM l yX5_echoTimeBy wsX5_echoTimeBy rX5_echoTimeBy [.ref (a 0 0), .ref (a 10 ea), .ref (a 10 eb), .ref (a 12 t)] D cA B0 (zW D B0 (zj (layC cA a G S) M)) (fun v H => v = some (.int (i32 (ET S ea eb t))) ∧ ∃ G : zG, CG S G ∧ zW D B0 (zj (layC cA a G S) M) H) := by
  refine z_met (cc := cX5_echoTimeBy) (maxL := 8) (ret := (some .int)) (by decide) rfl (Nat.le_of_ble_eq_true rfl) ?_
  intro p e s m args below meth c ls Q hQ E hP hB hS hl
  have hl : lv_has ls 8 [(0, .ref (a 0 0)), (1, .ref (a 10 ea)), (2, .ref (a 10 eb)), (3, .ref (a 12 t))] := hl
  have iX0 : ∀ w ∈ u_ws RX0 TX0 4, w ∈ wsX5_echoTimeBy := by decide +kernel
  have iX3 : ∀ w ∈ u_ws RX3 TX3 6, w ∈ wsX5_echoTimeBy := by decide +kernel
  have iX5 : ∀ w ∈ u_ws RX5 TX5 11, w ∈ wsX5_echoTimeBy := by decide +kernel
  have X : zX D B0 (zj (layC cA a G S) M) s.heap s.heap [] := ⟨hP, hS⟩
  have hI0 := hI.1
  unfold SI0 at hI0
  obtain ⟨b1, b2, b3, b4, b5, b8, b17, b19, b7⟩ := hI0
  have ht2 := (hI.2.2.1 t ht).2.1
  have hdp := dep_rng (t := t) hI ht
  have het := ET_rng (a := ea) (b := eb) hI he hb ht
  have hc := hG.2.2.2.2.1 t ht ea eb (by omega) (by omega)
  refine lv_aload_n E.1 E.2.1 dX5_echoTimeBy_0 rfl (lv_at hl 1 rfl) ?_
  refine z_get E X (lC_10 M cA a G S ea (by omega)) rfl iX0 0 (by decide) (by decide +kernel) (v := .int (i32 (ea : Int))) rfl dX5_echoTimeBy_1 ?_
  refine z_bipush E dX5_echoTimeBy_4 (by decide +kernel) ?_
  refine z_imul E dX5_echoTimeBy_6 ?_
  refine lv_aload_n E.1 E.2.1 dX5_echoTimeBy_7 rfl (lv_at hl 2 rfl) ?_
  refine z_get E X (lC_10 M cA a G S eb (by omega)) rfl iX0 0 (by decide) (by decide +kernel) (v := .int (i32 (eb : Int))) rfl dX5_echoTimeBy_8 ?_
  refine z_iadd E dX5_echoTimeBy_11 ?_
  refine z_top ((8 * ea + eb : Nat) : Int) (by omega) ?_
  refine lv_istore (lv' := [(4, .int (i32 ((8 * ea + eb : Nat) : Int))), (0, .ref (a 0 0)), (1, .ref (a 10 ea)), (2, .ref (a 10 eb)), (3, .ref (a 12 t))]) E.1 E.2.1 dX5_echoTimeBy_12 hl (by decide) rfl (fun ls hl => ?_)
  refine lv_iload E.1 E.2.1 dX5_echoTimeBy_14 (lv_at hl 0 rfl) ?_
  refine z_flt E 29 ⟨by omega, by omega⟩ dX5_echoTimeBy_16 (by decide) (fun h16_1 => ?_) (fun h16_1 => ?_)
  · exfalso
    omega
  · refine lv_iload E.1 E.2.1 dX5_echoTimeBy_19 (lv_at hl 0 rfl) ?_
    refine lv_aload_n E.1 E.2.1 dX5_echoTimeBy_21 rfl (lv_at hl 4 rfl) ?_
    refine z_get E X (lC_12 M cA a G S t (by omega)) rfl iX3 5 (by decide) (by decide +kernel) (v := .ref (a 13 t)) rfl dX5_echoTimeBy_22 ?_
    refine z_alen (z := 64) E X 0 (lC_13 M cA a G S t (by omega)) rfl (by omega) dX5_echoTimeBy_25 ?_
    refine z_clt E 32 ⟨by omega, by omega⟩ ⟨by omega, by omega⟩ dX5_echoTimeBy_26 (by decide) (fun h26_2 => ?_) (fun h26_2 => ?_)
    · refine lv_aload_n E.1 E.2.1 dX5_echoTimeBy_32 rfl (lv_at hl 4 rfl) ?_
      refine z_get E X (lC_12 M cA a G S t (by omega)) rfl iX3 5 (by decide) (by decide +kernel) (v := .ref (a 13 t)) rfl dX5_echoTimeBy_33 ?_
      refine lv_iload E.1 E.2.1 dX5_echoTimeBy_36 (lv_at hl 0 rfl) ?_
      refine z_iald E X (lC_13 M cA a G S t (by omega)) (8 * ea + eb) (by omega) (by omega) (by decide) dX5_echoTimeBy_38 ?_
      refine z_fge E 121 ⟨by omega, by omega⟩ dX5_echoTimeBy_39 (by decide) (fun h39_3 => ?_) (fun h39_3 => ?_)
      · refine lv_aload_n E.1 E.2.1 dX5_echoTimeBy_121 rfl (lv_at hl 4 rfl) ?_
        refine z_get E X (lC_12 M cA a G S t (by omega)) rfl iX3 5 (by decide) (by decide +kernel) (v := .ref (a 13 t)) rfl dX5_echoTimeBy_122 ?_
        refine lv_iload E.1 E.2.1 dX5_echoTimeBy_125 (lv_at hl 0 rfl) ?_
        refine z_iald E X (lC_13 M cA a G S t (by omega)) (8 * ea + eb) (by omega) (by omega) (by decide) dX5_echoTimeBy_127 ?_
        refine z_top (ET S ea eb t) (by omega) ?_
        exact z_ret E X hQ (⟨rfl, G, hG, X.1⟩) dX5_echoTimeBy_128
      · refine lv_aload_n E.1 E.2.1 dX5_echoTimeBy_42 rfl (lv_at hl 1 rfl) ?_
        refine lv_aload_n E.1 E.2.1 dX5_echoTimeBy_43 rfl (lv_at hl 4 rfl) ?_
        refine z_callV (As := [.ref (a 12 t)]) (rest := []) (n := 1) E X (lC_0 M cA a G S) rfl (x_depthOf l D cA B0 M a G S hI hG t (by omega)) gX5_echoTimeBy_X5_depthOf rfl (by decide +kernel) ⟨by decide, by decide⟩ rfl hl.1 rfl (Nat.le_of_ble_eq_true rfl) dX5_echoTimeBy_44 ⟨by decide, by decide⟩ X.1 0 0 ⟨rfl, rfl⟩ (fun v H locs hv hS_4 => ?_)
        obtain ⟨rfl, hw⟩ := hv
        replace X : zX D B0 (zj (layC cA a G S) M) s.heap H locs := ⟨hw, hS_4⟩
        have f_5 := dep_rng (t := t) hI (by omega)
        refine z_top (((dep S t).toNat : Nat) : Int) (by omega) ?_
        refine lv_istore (lv' := [(5, .int (i32 (((dep S t).toNat : Nat) : Int))), (4, .int (i32 ((8 * ea + eb : Nat) : Int))), (0, .ref (a 0 0)), (1, .ref (a 10 ea)), (2, .ref (a 10 eb)), (3, .ref (a 12 t))]) E.1 E.2.1 dX5_echoTimeBy_47 hl (by decide) rfl (fun ls hl => ?_)
        refine z_ldc (v := 2147483647) (z := 2147483647) E (by decide +kernel) (by decide +kernel) dX5_echoTimeBy_49 ?_
        refine z_top (rmin (fd S ea eb (S 10 t).toNat (dep S t).toNat) 0) (rfl) ?_
        refine lv_istore (lv' := [(6, .int (i32 (rmin (fd S ea eb (S 10 t).toNat (dep S t).toNat) 0))), (5, .int (i32 (((dep S t).toNat : Nat) : Int))), (4, .int (i32 ((8 * ea + eb : Nat) : Int))), (0, .ref (a 0 0)), (1, .ref (a 10 ea)), (2, .ref (a 10 eb)), (3, .ref (a 12 t))]) E.1 E.2.1 dX5_echoTimeBy_51 hl (by decide) rfl (fun ls hl => ?_)
        refine lv_aload_n E.1 E.2.1 dX5_echoTimeBy_53 rfl (lv_at hl 6 rfl) ?_
        refine z_get E X (lC_12 M cA a G S t (by omega)) rfl iX3 1 (by decide) (by decide +kernel) (v := .int (i32 (S 10 t))) rfl dX5_echoTimeBy_54 ?_
        refine z_top (((S 10 t).toNat + 0 : Nat) : Int) (by omega) ?_
        refine lv_istore (lv' := [(7, .int (i32 (((S 10 t).toNat + 0 : Nat) : Int))), (6, .int (i32 (rmin (fd S ea eb (S 10 t).toNat (dep S t).toNat) 0))), (5, .int (i32 (((dep S t).toNat : Nat) : Int))), (4, .int (i32 ((8 * ea + eb : Nat) : Int))), (0, .ref (a 0 0)), (1, .ref (a 10 ea)), (2, .ref (a 10 eb)), (3, .ref (a 12 t))]) E.1 E.2.1 dX5_echoTimeBy_57 hl (by decide) rfl (fun ls hl => ?_)
        have key59 : ∀ (N : Nat) (n : Nat) (G : zG) (H : Heap) (locs : List Loc) (ls : Array Slot), ((S 11 t).toNat + 1 - ((S 10 t).toNat + n)) < N → ((S 10 t).toNat + n ≤ (S 11 t).toNat + 1) → (CG S G) → zX D B0 (zj (layC cA a G S) M) s.heap H locs → lv_has ls 8 [(0, .ref (a 0 0)), (1, .ref (a 10 ea)), (2, .ref (a 10 eb)), (3, .ref (a 12 t)), (4, .int (i32 ((8 * ea + eb : Nat) : Int))), (5, .int (i32 (((dep S t).toNat : Nat) : Int))), (6, .int (i32 (rmin (fd S ea eb (S 10 t).toNat (dep S t).toNat) n))), (7, .int (i32 (((S 10 t).toNat + n : Nat) : Int)))] → W p l e rX5_echoTimeBy s m args below meth c H locs 0 0 Q (F0 m 59 ls []) := by
          intro N
          induction N with
          | zero => intros; omega
          | succ N ih59 =>
            intro n G H locs ls hN hn hG X hl
            refine lv_iload E.1 E.2.1 dX5_echoTimeBy_59 (lv_at hl 7 rfl) ?_
            refine lv_aload_n E.1 E.2.1 dX5_echoTimeBy_61 rfl (lv_at hl 3 rfl) ?_
            refine z_get E X (lC_12 M cA a G S t (by omega)) rfl iX3 2 (by decide) (by decide +kernel) (v := .int (i32 (S 11 t))) rfl dX5_echoTimeBy_62 ?_
            refine z_cgt E 112 ⟨by omega, by omega⟩ ⟨by omega, by omega⟩ dX5_echoTimeBy_65 (by decide) (fun h65_6 => ?_) (fun h65_6 => ?_)
            · refine lv_aload_n E.1 E.2.1 dX5_echoTimeBy_112 rfl (lv_at hl 3 rfl) ?_
              refine z_get E X (lC_12 M cA a G S t (by omega)) rfl iX3 5 (by decide) (by decide +kernel) (v := .ref (a 13 t)) rfl dX5_echoTimeBy_113 ?_
              refine lv_iload E.1 E.2.1 dX5_echoTimeBy_116 (lv_at hl 4 rfl) ?_
              refine lv_iload E.1 E.2.1 dX5_echoTimeBy_118 (lv_at hl 6 rfl) ?_
              have hrm := rmin_is (f := fd S ea eb (S 10 t).toNat (dep S t).toNat) (S 11 t - S 10 t).toNat (fun k hk => by have a1 := TM_rng (e := ea) (x := (S 10 t).toNat + k) (y := (dep S t).toNat) hI.1 hI.2.1 he (by omega) (by omega); have a2 := TM_rng (e := eb) (x := (S 10 t).toNat + k) (y := (dep S t).toNat) hI.1 hI.2.1 hb (by omega) (by omega); unfold fd; omega)
              refine z_top (ET S ea eb t) (by rw [show n = (S 11 t - S 10 t).toNat + 1 by omega, hrm]; rfl) ?_
              refine z_iast E X (lC_13 M cA a G S t (by omega)) (8 * ea + eb) (by omega) (by omega) (by decide) dX5_echoTimeBy_120 (fun H locs X => ?_)
              have X := cw_etimes (by omega) X
              have hG : CG S (z3 G 13 t (8 * ea + eb) (ET S ea eb t)) := CG_echo hG (by omega) (by omega) he hb
              refine lv_aload_n E.1 E.2.1 dX5_echoTimeBy_121 rfl (lv_at hl 3 rfl) ?_
              refine z_get E X (lC_12 M cA a (z3 G 13 t (8 * ea + eb) (ET S ea eb t)) S t (by omega)) rfl iX3 5 (by decide) (by decide +kernel) (v := .ref (a 13 t)) rfl dX5_echoTimeBy_122 ?_
              refine lv_iload E.1 E.2.1 dX5_echoTimeBy_125 (lv_at hl 4 rfl) ?_
              refine z_iald E X (lC_13 M cA a (z3 G 13 t (8 * ea + eb) (ET S ea eb t)) S t (by omega)) (8 * ea + eb) (by omega) (by omega) (by decide) dX5_echoTimeBy_127 ?_
              refine z_top (ET S ea eb t) (by rw [z3_eq]; simp [zg]) ?_
              exact z_ret E X hQ (⟨rfl, (z3 G 13 t (8 * ea + eb) (ET S ea eb t)), hG, X.1⟩) dX5_echoTimeBy_128
            · have hrr := rmin_rng (f := fd S ea eb (S 10 t).toNat (dep S t).toNat) (lo := 0) (by decide) (n := n) (fun k hk => by have a1 := TM_rng (e := ea) (x := (S 10 t).toNat + k) (y := (dep S t).toNat) hI.1 hI.2.1 he (by omega) (by omega); have a2 := TM_rng (e := eb) (x := (S 10 t).toNat + k) (y := (dep S t).toNat) hI.1 hI.2.1 hb (by omega) (by omega); unfold fd; omega)
              refine lv_iload E.1 E.2.1 dX5_echoTimeBy_68 (lv_at hl 6 rfl) ?_
              refine lv_aload_n E.1 E.2.1 dX5_echoTimeBy_70 rfl (lv_at hl 0 rfl) ?_
              refine z_get E X (lC_0 M cA a G S) rfl iX5 0 (by decide) (by decide +kernel) (v := .ref (a 1 0)) rfl dX5_echoTimeBy_71 ?_
              refine lv_aload_n E.1 E.2.1 dX5_echoTimeBy_74 rfl (lv_at hl 1 rfl) ?_
              refine z_get E X (lC_10 M cA a G S ea (by omega)) rfl iX0 1 (by decide) (by decide +kernel) (v := .int (i32 (S 6 ea))) rfl dX5_echoTimeBy_75 ?_
              refine lv_iload E.1 E.2.1 dX5_echoTimeBy_78 (lv_at hl 7 rfl) ?_
              refine lv_iload E.1 E.2.1 dX5_echoTimeBy_80 (lv_at hl 5 rfl) ?_
              replace X := cl_in X
              have hLi := LI_of hI hG
              have h6_7 := hI.2.1 ea (by omega)
              refine z_callV (As := [.int (i32 (S 6 ea)), .int (i32 (((S 10 t).toNat + n : Nat) : Int)), .int (i32 (((dep S t).toNat : Nat) : Int))]) (rest := [.int (i32 (rmin (fd S ea eb (S 10 t).toNat (dep S t).toNat) n))]) (n := 3) E X (lL_0 _ cA (hL a) (TL S G)) rfl (L_timeTo l D cA B0 (zj (layC cA a G S) M) (hL a) (TL S G) (S 3 0) (SI_u hI) hLi (S 6 ea) (((S 10 t).toNat + n : Nat) : Int) (((dep S t).toNat : Nat) : Int) h6_7 (by omega) (show S 1 0 ≤ (((dep S t).toNat : Nat) : Int) ∧ (((dep S t).toNat : Nat) : Int) ≤ S 1 0 + S 2 0 by omega)) gX5_echoTimeBy_X1_timeTo rfl (by decide +kernel) ⟨by decide, by decide⟩ rfl hl.1 rfl (Nat.le_of_ble_eq_true rfl) dX5_echoTimeBy_82 ⟨by decide, by decide⟩ X.1 0 0 ⟨rfl, rfl⟩ (fun v H locs hv hS_8 => ?_)
              obtain ⟨rfl, T_9, hLIT_9, hsT_9, hw⟩ := hv
              obtain ⟨G_10, hG, hgkG_10, X⟩ := cl_back hG ⟨hw, hS_8⟩ hLIT_9 hsT_9
              refine z_top (TM S ea ((S 10 t).toNat + n) ((dep S t).toNat)) (TM_fb (S := S) (q := ea) (x := ((S 10 t).toNat + n)) (y := ((dep S t).toNat)) h6_7.1).1.symm ?_
              have f_11 := TM_rng (S := S) (e := ea) (x := ((S 10 t).toNat + n)) (y := ((dep S t).toNat)) hI.1 hI.2.1 (by omega) (by omega) (by omega)
              refine lv_aload_n E.1 E.2.1 dX5_echoTimeBy_85 rfl (lv_at hl 0 rfl) ?_
              refine z_get E X (lC_0 M cA a G_10 S) rfl iX5 0 (by decide) (by decide +kernel) (v := .ref (a 1 0)) rfl dX5_echoTimeBy_86 ?_
              refine lv_aload_n E.1 E.2.1 dX5_echoTimeBy_89 rfl (lv_at hl 2 rfl) ?_
              refine z_get E X (lC_10 M cA a G_10 S eb (by omega)) rfl iX0 1 (by decide) (by decide +kernel) (v := .int (i32 (S 6 eb))) rfl dX5_echoTimeBy_90 ?_
              refine lv_iload E.1 E.2.1 dX5_echoTimeBy_93 (lv_at hl 7 rfl) ?_
              refine lv_iload E.1 E.2.1 dX5_echoTimeBy_95 (lv_at hl 5 rfl) ?_
              replace X := cl_in X
              have hLi := LI_of hI hG
              have h6_12 := hI.2.1 eb (by omega)
              refine z_callV (As := [.int (i32 (S 6 eb)), .int (i32 (((S 10 t).toNat + n : Nat) : Int)), .int (i32 (((dep S t).toNat : Nat) : Int))]) (rest := [.int (i32 (TM S ea ((S 10 t).toNat + n) ((dep S t).toNat))), .int (i32 (rmin (fd S ea eb (S 10 t).toNat (dep S t).toNat) n))]) (n := 3) E X (lL_0 _ cA (hL a) (TL S G_10)) rfl (L_timeTo l D cA B0 (zj (layC cA a G_10 S) M) (hL a) (TL S G_10) (S 3 0) (SI_u hI) hLi (S 6 eb) (((S 10 t).toNat + n : Nat) : Int) (((dep S t).toNat : Nat) : Int) h6_12 (by omega) (show S 1 0 ≤ (((dep S t).toNat : Nat) : Int) ∧ (((dep S t).toNat : Nat) : Int) ≤ S 1 0 + S 2 0 by omega)) gX5_echoTimeBy_X1_timeTo rfl (by decide +kernel) ⟨by decide, by decide⟩ rfl hl.1 rfl (Nat.le_of_ble_eq_true rfl) dX5_echoTimeBy_97 ⟨by decide, by decide⟩ X.1 0 0 ⟨rfl, rfl⟩ (fun v H locs hv hS_13 => ?_)
              obtain ⟨rfl, T_14, hLIT_14, hsT_14, hw⟩ := hv
              obtain ⟨G_15, hG, hgkG_15, X⟩ := cl_back hG ⟨hw, hS_13⟩ hLIT_14 hsT_14
              refine z_top (TM S eb ((S 10 t).toNat + n) ((dep S t).toNat)) (TM_fb (S := S) (q := eb) (x := ((S 10 t).toNat + n)) (y := ((dep S t).toNat)) h6_12.1).1.symm ?_
              have f_16 := TM_rng (S := S) (e := eb) (x := ((S 10 t).toNat + n)) (y := ((dep S t).toNat)) hI.1 hI.2.1 (by omega) (by omega) (by omega)
              refine z_iadd E dX5_echoTimeBy_100 ?_
              refine z_mmin E ⟨by omega, by omega⟩ ⟨by omega, by omega⟩ (by decide +kernel) (by decide +kernel) (by decide +kernel) (by decide +kernel) hl.1 (by decide) (Nat.le_of_ble_eq_true rfl) ⟨by decide, by decide⟩ dX5_echoTimeBy_101 ?_
              refine z_top (rmin (fd S ea eb (S 10 t).toNat (dep S t).toNat) (n + 1)) (rfl) ?_
              refine lv_istore (lv' := [(6, .int (i32 (rmin (fd S ea eb (S 10 t).toNat (dep S t).toNat) (n + 1)))), (0, .ref (a 0 0)), (1, .ref (a 10 ea)), (2, .ref (a 10 eb)), (3, .ref (a 12 t)), (4, .int (i32 ((8 * ea + eb : Nat) : Int))), (5, .int (i32 (((dep S t).toNat : Nat) : Int))), (7, .int (i32 (((S 10 t).toNat + n : Nat) : Int)))]) E.1 E.2.1 dX5_echoTimeBy_104 hl (by decide) rfl (fun ls hl => ?_)
              refine z_iinc (lv' := [(7, .int (i32 (((S 10 t).toNat + n + 1 : Nat) : Int))), (6, .int (i32 (rmin (fd S ea eb (S 10 t).toNat (dep S t).toNat) (n + 1)))), (0, .ref (a 0 0)), (1, .ref (a 10 ea)), (2, .ref (a 10 eb)), (3, .ref (a 12 t)), (4, .int (i32 ((8 * ea + eb : Nat) : Int))), (5, .int (i32 (((dep S t).toNat : Nat) : Int)))]) E dX5_echoTimeBy_106 hl (k := 7) rfl (by decide) rfl (fun ls hl => ?_)
              refine lv_goto (tgt := 59) E.1 E.2.1 dX5_echoTimeBy_109 (by decide) ?_
              exact ih59 (n + 1) G_15 _ _ _ (by omega) (by omega) hG X (lv_sub hl [2, 3, 4, 5, 6, 7, 1, 0] rfl)
        exact key59 (((S 11 t).toNat + 1 - ((S 10 t).toNat + 0)) + 1) 0 G _ _ _ (by omega) (by omega) hG X (lv_sub hl [4, 5, 6, 7, 3, 2, 1, 0] rfl)
    · exfalso
      omega

abbrev rX5_echoAt : Room := { frames := 4, cells := 0, slots := 0, locals := 103 }
set_option maxHeartbeats 4000000 in
set_option maxRecDepth 100000 in
theorem x_echoAt (l : Launch) (D : va_G) (cA : Nat → ClassId) (B0 : Nat) (M : zL) (a : Nat → Nat → Nat) (G : zG) (S : zS) (hI : SI S) (hG : CG S G) (ea eb : Nat) (tick : Int) (he : (ea : Int) < S 5 0) (hb : (eb : Int) < S 5 0) (ht : zrl tick) : zM l yX5_echoAt wsX5_echoAt rX5_echoAt [.ref (a 0 0), .ref (a 10 ea), .ref (a 10 eb), .long (i64 tick)] D cA B0 (zW D B0 (zj (layC cA a G S) M)) (fun v H => v = some (.int (i32 (EC S ea eb tick))) ∧ ∃ G : zG, CG S G ∧ zW D B0 (zj (layC cA a G S) M) H) := by
  refine z_met (cc := cX5_echoAt) (maxL := 10) (ret := (some .int)) (by decide) rfl (Nat.le_of_ble_eq_true rfl) ?_
  intro p e s m args below meth c ls Q hQ E hP hB hS hl
  have hl : lv_has ls 10 [(0, .ref (a 0 0)), (1, .ref (a 10 ea)), (2, .ref (a 10 eb)), (3, .long (i64 tick))] := hl
  have iX0 : ∀ w ∈ u_ws RX0 TX0 4, w ∈ wsX5_echoAt := by decide +kernel
  have iX3 : ∀ w ∈ u_ws RX3 TX3 6, w ∈ wsX5_echoAt := by decide +kernel
  have iX5 : ∀ w ∈ u_ws RX5 TX5 11, w ∈ wsX5_echoAt := by decide +kernel
  have X : zX D B0 (zj (layC cA a G S) M) s.heap s.heap [] := ⟨hP, hS⟩
  have hI0 := hI.1
  unfold SI0 at hI0
  obtain ⟨b1, b2, b3, b4, b5, b8, b17, b19, b7⟩ := hI0
  unfold zrl at ht
  have l1 := b7 ea
  have l2 := b7 eb
  refine z_iconst E dX5_echoAt_0 ?_
  refine z_top (sumn (cut (S 8 0) (fec S ea eb tick)) 0) (rfl) ?_
  refine lv_istore (lv' := [(5, .int (i32 (sumn (cut (S 8 0) (fec S ea eb tick)) 0))), (0, .ref (a 0 0)), (1, .ref (a 10 ea)), (2, .ref (a 10 eb)), (3, .long (i64 tick))]) E.1 E.2.1 dX5_echoAt_1 hl (by decide) rfl (fun ls hl => ?_)
  refine lv_aload_n E.1 E.2.1 dX5_echoAt_3 rfl (lv_at hl 2 rfl) ?_
  refine z_get E X (lC_10 M cA a G S ea (by omega)) rfl iX0 2 (by decide) (by decide +kernel) (v := .int (i32 (1 - S 7 ea))) rfl dX5_echoAt_4 ?_
  refine z_feq E 86 ⟨by omega, by omega⟩ dX5_echoAt_7 (by decide) (fun h7_1 => ?_) (fun h7_1 => ?_)
  · refine lv_iload E.1 E.2.1 dX5_echoAt_86 (lv_at hl 0 rfl) ?_
    have hz0 : EC S ea eb tick = 0 := EC_zero hI he hb (by omega)
    exact z_ret E X hQ (⟨by rw [hz0]; rfl, G, hG, X.1⟩) dX5_echoAt_88
  · refine lv_aload_n E.1 E.2.1 dX5_echoAt_10 rfl (lv_at hl 3 rfl) ?_
    refine z_get E X (lC_10 M cA a G S eb (by omega)) rfl iX0 2 (by decide) (by decide +kernel) (v := .int (i32 (1 - S 7 eb))) rfl dX5_echoAt_11 ?_
    refine z_feq E 86 ⟨by omega, by omega⟩ dX5_echoAt_14 (by decide) (fun h14_2 => ?_) (fun h14_2 => ?_)
    · refine lv_iload E.1 E.2.1 dX5_echoAt_86 (lv_at hl 0 rfl) ?_
      have hz0 : EC S ea eb tick = 0 := EC_zero hI he hb (by omega)
      exact z_ret E X hQ (⟨by rw [hz0]; rfl, G, hG, X.1⟩) dX5_echoAt_88
    · refine lv_lload_n E.1 E.2.1 dX5_echoAt_17 rfl (lv_at hl 4 rfl) ?_
      refine z_lconst (z := 0) E dX5_echoAt_18 (by decide +kernel) ?_
      refine z_lcmp E ⟨by omega, by omega⟩ ⟨by omega, by omega⟩ dX5_echoAt_19 (fun z_3 hrz_3 hlz_3 hez_3 => ?_)
      unfold zr at hrz_3
      refine z_flt E 86 ⟨by omega, by omega⟩ dX5_echoAt_20 (by decide) (fun h20_4 => ?_) (fun h20_4 => ?_)
      · refine lv_iload E.1 E.2.1 dX5_echoAt_86 (lv_at hl 0 rfl) ?_
        have hz0 : EC S ea eb tick = 0 := EC_zero hI he hb (by omega)
        exact z_ret E X hQ (⟨by rw [hz0]; rfl, G, hG, X.1⟩) dX5_echoAt_88
      · refine lv_aload_n E.1 E.2.1 dX5_echoAt_23 rfl (lv_at hl 1 rfl) ?_
        refine z_get E X (lC_0 M cA a G S) rfl iX5 2 (by decide) (by decide +kernel) (v := .ref (a 5 0)) rfl dX5_echoAt_24 ?_
        refine lv_astore (lv' := [(6, .ref (a 5 0)), (5, .int (i32 (sumn (cut (S 8 0) (fec S ea eb tick)) 0))), (0, .ref (a 0 0)), (1, .ref (a 10 ea)), (2, .ref (a 10 eb)), (3, .long (i64 tick))]) E.1 E.2.1 dX5_echoAt_27 hl (by decide) rfl (fun ls hl => ?_)
        refine lv_aload E.1 E.2.1 dX5_echoAt_29 (lv_at hl 0 rfl) ?_
        refine z_alen (z := 8) E X 3 (lC_5 M cA a G S) rfl (by omega) dX5_echoAt_31 ?_
        refine lv_istore (lv' := [(7, .int (i32 8)), (6, .ref (a 5 0)), (5, .int (i32 (sumn (cut (S 8 0) (fec S ea eb tick)) 0))), (0, .ref (a 0 0)), (1, .ref (a 10 ea)), (2, .ref (a 10 eb)), (3, .long (i64 tick))]) E.1 E.2.1 dX5_echoAt_32 hl (by decide) rfl (fun ls hl => ?_)
        refine z_iconst E dX5_echoAt_34 ?_
        refine z_top (0 : Int) (rfl) ?_
        refine lv_istore (lv' := [(8, .int (i32 (0 : Int))), (7, .int (i32 8)), (6, .ref (a 5 0)), (5, .int (i32 (sumn (cut (S 8 0) (fec S ea eb tick)) 0))), (0, .ref (a 0 0)), (1, .ref (a 10 ea)), (2, .ref (a 10 eb)), (3, .long (i64 tick))]) E.1 E.2.1 dX5_echoAt_35 hl (by decide) rfl (fun ls hl => ?_)
        have key37 : ∀ (N : Nat) (n : Nat) (G : zG) (H : Heap) (locs : List Loc) (ls : Array Slot), (8 - n) < N → (n ≤ 8) → (CG S G) → zX D B0 (zj (layC cA a G S) M) s.heap H locs → lv_has ls 10 [(0, .ref (a 0 0)), (1, .ref (a 10 ea)), (2, .ref (a 10 eb)), (3, .long (i64 tick)), (5, .int (i32 (sumn (cut (S 8 0) (fec S ea eb tick)) n))), (6, .ref (a 5 0)), (7, .int (i32 8)), (8, .int (i32 (n : Int)))] → W p l e rX5_echoAt s m args below meth c H locs 0 0 Q (F0 m 37 ls []) := by
          intro N
          induction N with
          | zero => intros; omega
          | succ N ih37 =>
            intro n G H locs ls hN hn hG X hl
            refine lv_iload E.1 E.2.1 dX5_echoAt_37 (lv_at hl 7 rfl) ?_
            refine lv_iload E.1 E.2.1 dX5_echoAt_39 (lv_at hl 6 rfl) ?_
            refine z_cge E 86 ⟨by omega, by omega⟩ ⟨by omega, by omega⟩ dX5_echoAt_41 (by decide) (fun h41_5 => ?_) (fun h41_5 => ?_)
            · refine lv_iload E.1 E.2.1 dX5_echoAt_86 (lv_at hl 4 rfl) ?_
              have hlo : S 7 ea = 0 ∧ S 7 eb = 0 := by omega
              exact z_ret E X hQ (⟨by rw [cut_end (by omega) (by omega)]; unfold EC; rw [if_pos hlo], G, hG, X.1⟩) dX5_echoAt_88
            · refine lv_aload E.1 E.2.1 dX5_echoAt_44 (lv_at hl 5 rfl) ?_
              refine lv_iload E.1 E.2.1 dX5_echoAt_46 (lv_at hl 7 rfl) ?_
              by_cases hp_6 : ((n : Nat) : Int) < S 8 0
              · refine z_aldS (C := "EchoRow$Target") E X 3 (lC_5 M cA a G S) rfl n (by omega) (by omega) (by decide) (if_pos hp_6) dX5_echoAt_48 ?_
                refine lv_astore (lv' := [(9, .ref (a 12 n)), (0, .ref (a 0 0)), (1, .ref (a 10 ea)), (2, .ref (a 10 eb)), (3, .long (i64 tick)), (5, .int (i32 (sumn (cut (S 8 0) (fec S ea eb tick)) n))), (6, .ref (a 5 0)), (7, .int (i32 8)), (8, .int (i32 (n : Int)))]) E.1 E.2.1 dX5_echoAt_49 hl (by decide) rfl (fun ls hl => ?_)
                refine lv_aload E.1 E.2.1 dX5_echoAt_51 (lv_at hl 0 rfl) ?_
                refine lv_ifnull E.1 E.2.1 dX5_echoAt_53 ?_
                refine lv_aload_n E.1 E.2.1 dX5_echoAt_56 rfl (lv_at hl 1 rfl) ?_
                refine lv_aload_n E.1 E.2.1 dX5_echoAt_57 rfl (lv_at hl 2 rfl) ?_
                refine lv_aload_n E.1 E.2.1 dX5_echoAt_58 rfl (lv_at hl 3 rfl) ?_
                refine lv_aload E.1 E.2.1 dX5_echoAt_59 (lv_at hl 0 rfl) ?_
                refine z_callV (As := [.ref (a 10 ea), .ref (a 10 eb), .ref (a 12 n)]) (rest := []) (n := 3) E X (lC_0 M cA a G S) rfl (x_echoTimeBy l D cA B0 M a G S hI hG ea eb n (by omega) (by omega) (by omega)) gX5_echoAt_X5_echoTimeBy rfl (by decide +kernel) ⟨by decide, by decide⟩ rfl hl.1 rfl (Nat.le_of_ble_eq_true rfl) dX5_echoAt_61 ⟨by decide, by decide⟩ X.1 0 0 ⟨rfl, rfl⟩ (fun v H locs hv hS_7 => ?_)
                obtain ⟨rfl, G_8, hG, hw⟩ := hv
                replace X : zX D B0 (zj (layC cA a G_8 S) M) s.heap H locs := ⟨hw, hS_7⟩
                have f_9 := ET_rng (a := ea) (b := eb) (t := n) hI (by omega) (by omega) (by omega)
                refine z_i2l E ⟨by omega, by omega⟩ dX5_echoAt_64 ?_
                refine lv_lload_n E.1 E.2.1 dX5_echoAt_65 rfl (lv_at hl 4 rfl) ?_
                refine z_lcmp E ⟨by omega, by omega⟩ ⟨by omega, by omega⟩ dX5_echoAt_66 (fun z_10 hrz_10 hlz_10 hez_10 => ?_)
                unfold zr at hrz_10
                refine z_fne E 80 ⟨by omega, by omega⟩ dX5_echoAt_67 (by decide) (fun h67_11 => ?_) (fun h67_11 => ?_)
                · have ec1 : sumn (cut (S 8 0) (fec S ea eb tick)) (n + 1) = sumn (cut (S 8 0) (fec S ea eb tick)) n := by
                    rw [cut_S, fec]
                    repeat' split
                    all_goals omega
                  have hl : lv_has ls 10 [(9, .ref (a 12 n)), (0, .ref (a 0 0)), (1, .ref (a 10 ea)), (2, .ref (a 10 eb)), (3, .long (i64 tick)), (5, .int (i32 (sumn (cut (S 8 0) (fec S ea eb tick)) (n + 1)))), (6, .ref (a 5 0)), (7, .int (i32 8)), (8, .int (i32 (n : Int)))] := by rw [ec1]; exact hl
                  refine z_iinc (lv' := [(8, .int (i32 ((n + 1 : Nat) : Int))), (9, .ref (a 12 n)), (0, .ref (a 0 0)), (1, .ref (a 10 ea)), (2, .ref (a 10 eb)), (3, .long (i64 tick)), (5, .int (i32 (sumn (cut (S 8 0) (fec S ea eb tick)) (n + 1)))), (6, .ref (a 5 0)), (7, .int (i32 8))]) E dX5_echoAt_80 hl (k := 8) rfl (by decide) rfl (fun ls hl => ?_)
                  refine lv_goto (tgt := 37) E.1 E.2.1 dX5_echoAt_83 (by decide) ?_
                  exact ih37 (n + 1) G_8 _ _ _ (by omega) (by omega) hG X (lv_sub hl [2, 3, 4, 5, 6, 7, 8, 0] rfl)
                · refine lv_iload E.1 E.2.1 dX5_echoAt_70 (lv_at hl 5 rfl) ?_
                  refine lv_aload E.1 E.2.1 dX5_echoAt_72 (lv_at hl 0 rfl) ?_
                  refine z_get E X (lC_12 M cA a G_8 S n (by omega)) rfl iX3 4 (by decide) (by decide +kernel) (v := .int (i32 (S 13 n))) rfl dX5_echoAt_74 ?_
                  refine z_iadd E dX5_echoAt_77 ?_
                  refine lv_istore (lv' := [(5, .int (i32 ((sumn (cut (S 8 0) (fec S ea eb tick)) n) + (S 13 n)))), (9, .ref (a 12 n)), (0, .ref (a 0 0)), (1, .ref (a 10 ea)), (2, .ref (a 10 eb)), (3, .long (i64 tick)), (6, .ref (a 5 0)), (7, .int (i32 8)), (8, .int (i32 (n : Int)))]) E.1 E.2.1 dX5_echoAt_78 hl (by decide) rfl (fun ls hl => ?_)
                  have ec1 : sumn (cut (S 8 0) (fec S ea eb tick)) (n + 1) = (sumn (cut (S 8 0) (fec S ea eb tick)) n) + (S 13 n) := by
                    rw [cut_S, fec]
                    repeat' split
                    all_goals omega
                  have hl : lv_has ls 10 [(5, .int (i32 (sumn (cut (S 8 0) (fec S ea eb tick)) (n + 1)))), (9, .ref (a 12 n)), (0, .ref (a 0 0)), (1, .ref (a 10 ea)), (2, .ref (a 10 eb)), (3, .long (i64 tick)), (6, .ref (a 5 0)), (7, .int (i32 8)), (8, .int (i32 (n : Int)))] := by rw [ec1]; exact hl
                  refine z_iinc (lv' := [(8, .int (i32 ((n + 1 : Nat) : Int))), (5, .int (i32 (sumn (cut (S 8 0) (fec S ea eb tick)) (n + 1)))), (9, .ref (a 12 n)), (0, .ref (a 0 0)), (1, .ref (a 10 ea)), (2, .ref (a 10 eb)), (3, .long (i64 tick)), (6, .ref (a 5 0)), (7, .int (i32 8))]) E dX5_echoAt_80 hl (k := 8) rfl (by decide) rfl (fun ls hl => ?_)
                  refine lv_goto (tgt := 37) E.1 E.2.1 dX5_echoAt_83 (by decide) ?_
                  exact ih37 (n + 1) G_8 _ _ _ (by omega) (by omega) hG X (lv_sub hl [3, 4, 5, 6, 1, 7, 8, 0] rfl)
              · refine z_aldN (C := "EchoRow$Target") E X 3 (lC_5 M cA a G S) rfl n (by omega) (by omega) (by decide) (if_neg hp_6) dX5_echoAt_48 ?_
                refine lv_astoreN (lv' := [(9, .null), (0, .ref (a 0 0)), (1, .ref (a 10 ea)), (2, .ref (a 10 eb)), (3, .long (i64 tick)), (5, .int (i32 (sumn (cut (S 8 0) (fec S ea eb tick)) n))), (6, .ref (a 5 0)), (7, .int (i32 8)), (8, .int (i32 (n : Int)))]) E.1 E.2.1 dX5_echoAt_49 hl (by decide) rfl (fun ls hl => ?_)
                refine lv_aloadN E.1 E.2.1 dX5_echoAt_51 (lv_at hl 0 rfl) ?_
                refine lv_ifnullN (tgt := 80) E.1 E.2.1 dX5_echoAt_53 (by decide) ?_
                have ec1 : sumn (cut (S 8 0) (fec S ea eb tick)) (n + 1) = sumn (cut (S 8 0) (fec S ea eb tick)) n := by
                  rw [cut_S, fec]
                  repeat' split
                  all_goals omega
                have hl : lv_has ls 10 [(9, .null), (0, .ref (a 0 0)), (1, .ref (a 10 ea)), (2, .ref (a 10 eb)), (3, .long (i64 tick)), (5, .int (i32 (sumn (cut (S 8 0) (fec S ea eb tick)) (n + 1)))), (6, .ref (a 5 0)), (7, .int (i32 8)), (8, .int (i32 (n : Int)))] := by rw [ec1]; exact hl
                refine z_iinc (lv' := [(8, .int (i32 ((n + 1 : Nat) : Int))), (9, .null), (0, .ref (a 0 0)), (1, .ref (a 10 ea)), (2, .ref (a 10 eb)), (3, .long (i64 tick)), (5, .int (i32 (sumn (cut (S 8 0) (fec S ea eb tick)) (n + 1)))), (6, .ref (a 5 0)), (7, .int (i32 8))]) E dX5_echoAt_80 hl (k := 8) rfl (by decide) rfl (fun ls hl => ?_)
                refine lv_goto (tgt := 37) E.1 E.2.1 dX5_echoAt_83 (by decide) ?_
                exact ih37 (n + 1) G _ _ _ (by omega) (by omega) hG X (lv_sub hl [2, 3, 4, 5, 6, 7, 8, 0] rfl)
        exact key37 ((8 - 0) + 1) 0 G _ _ _ (by omega) (by omega) hG X (lv_sub hl [4, 5, 6, 7, 3, 2, 1, 0] rfl)

abbrev rX5_heardBy : Room := { frames := 5, cells := 0, slots := 0, locals := 132 }
set_option maxHeartbeats 4000000 in
set_option maxRecDepth 100000 in
theorem x_heardBy (l : Launch) (D : va_G) (cA : Nat → ClassId) (B0 : Nat) (M : zL) (a : Nat → Nat → Nat) (G : zG) (S : zS) (hI : SI S) (hG : CG S G) (q : Nat) (tick : Int) (hfo : S 17 0 = 1) (he : (q : Int) < S 5 0) (ht : -1000000000000 ≤ tick ∧ tick ≤ 1000000000000) : zM l yX5_heardBy wsX5_heardBy rX5_heardBy [.ref (a 0 0), .ref (a 10 q), .long (i64 tick)] D cA B0 (zW D B0 (zj (layC cA a G S) M)) (fun v H => v = some (.int (i32 (HD S q tick))) ∧ ∃ G : zG, CG S G ∧ zW D B0 (zj (layC cA a G S) M) H) := by
  refine z_met (cc := cX5_heardBy) (maxL := 9) (ret := (some .int)) (by decide) rfl (Nat.le_of_ble_eq_true rfl) ?_
  intro p e s m args below meth c ls Q hQ E hP hB hS hl
  have hl : lv_has ls 9 [(0, .ref (a 0 0)), (1, .ref (a 10 q)), (2, .long (i64 tick))] := hl
  have iX0 : ∀ w ∈ u_ws RX0 TX0 4, w ∈ wsX5_heardBy := by decide +kernel
  have iX5 : ∀ w ∈ u_ws RX5 TX5 11, w ∈ wsX5_heardBy := by decide +kernel
  have X : zX D B0 (zj (layC cA a G S) M) s.heap s.heap [] := ⟨hP, hS⟩
  have hI0 := hI.1
  unfold SI0 at hI0
  obtain ⟨b1, b2, b3, b4, b5, b8, b17, b19, b7⟩ := hI0
  refine z_iconst E dX5_heardBy_0 ?_
  refine z_top (sumn (cut (S 5 0) (fhd S q tick)) 0) (rfl) ?_
  refine lv_istore (lv' := [(4, .int (i32 (sumn (cut (S 5 0) (fhd S q tick)) 0))), (0, .ref (a 0 0)), (1, .ref (a 10 q)), (2, .long (i64 tick))]) E.1 E.2.1 dX5_heardBy_1 hl (by decide) rfl (fun ls hl => ?_)
  refine lv_aload_n E.1 E.2.1 dX5_heardBy_3 rfl (lv_at hl 1 rfl) ?_
  refine z_get E X (lC_0 M cA a G S) rfl iX5 1 (by decide) (by decide +kernel) (v := .ref (a 4 0)) rfl dX5_heardBy_4 ?_
  refine lv_astore (lv' := [(5, .ref (a 4 0)), (4, .int (i32 (sumn (cut (S 5 0) (fhd S q tick)) 0))), (0, .ref (a 0 0)), (1, .ref (a 10 q)), (2, .long (i64 tick))]) E.1 E.2.1 dX5_heardBy_7 hl (by decide) rfl (fun ls hl => ?_)
  refine lv_aload E.1 E.2.1 dX5_heardBy_9 (lv_at hl 0 rfl) ?_
  refine z_alen (z := 8) E X 2 (lC_4 M cA a G S) rfl (by omega) dX5_heardBy_11 ?_
  refine lv_istore (lv' := [(6, .int (i32 8)), (5, .ref (a 4 0)), (4, .int (i32 (sumn (cut (S 5 0) (fhd S q tick)) 0))), (0, .ref (a 0 0)), (1, .ref (a 10 q)), (2, .long (i64 tick))]) E.1 E.2.1 dX5_heardBy_12 hl (by decide) rfl (fun ls hl => ?_)
  refine z_iconst E dX5_heardBy_14 ?_
  refine z_top (0 : Int) (rfl) ?_
  refine lv_istore (lv' := [(7, .int (i32 (0 : Int))), (6, .int (i32 8)), (5, .ref (a 4 0)), (4, .int (i32 (sumn (cut (S 5 0) (fhd S q tick)) 0))), (0, .ref (a 0 0)), (1, .ref (a 10 q)), (2, .long (i64 tick))]) E.1 E.2.1 dX5_heardBy_15 hl (by decide) rfl (fun ls hl => ?_)
  have key17 : ∀ (N : Nat) (n : Nat) (G : zG) (H : Heap) (locs : List Loc) (ls : Array Slot), (8 - n) < N → (n ≤ 8) → (CG S G) → zX D B0 (zj (layC cA a G S) M) s.heap H locs → lv_has ls 9 [(0, .ref (a 0 0)), (1, .ref (a 10 q)), (2, .long (i64 tick)), (4, .int (i32 (sumn (cut (S 5 0) (fhd S q tick)) n))), (5, .ref (a 4 0)), (6, .int (i32 8)), (7, .int (i32 (n : Int)))] → W p l e rX5_heardBy s m args below meth c H locs 0 0 Q (F0 m 17 ls []) := by
    intro N
    induction N with
    | zero => intros; omega
    | succ N ih17 =>
      intro n G H locs ls hN hn hG X hl
      refine lv_iload E.1 E.2.1 dX5_heardBy_17 (lv_at hl 6 rfl) ?_
      refine lv_iload E.1 E.2.1 dX5_heardBy_19 (lv_at hl 5 rfl) ?_
      refine z_cge E 70 ⟨by omega, by omega⟩ ⟨by omega, by omega⟩ dX5_heardBy_21 (by decide) (fun h21_1 => ?_) (fun h21_1 => ?_)
      · refine lv_iload E.1 E.2.1 dX5_heardBy_70 (lv_at hl 3 rfl) ?_
        exact z_ret E X hQ (⟨by rw [cut_end (by omega) (by omega)]; rfl, G, hG, X.1⟩) dX5_heardBy_72
      · have l1 := b7 n
        have l2 := hI.2.2.2.2.2 n
        refine lv_aload E.1 E.2.1 dX5_heardBy_24 (lv_at hl 4 rfl) ?_
        refine lv_iload E.1 E.2.1 dX5_heardBy_26 (lv_at hl 6 rfl) ?_
        by_cases hp_2 : ((n : Nat) : Int) < S 5 0
        · refine z_aldS (C := "EchoRow$Element") E X 2 (lC_4 M cA a G S) rfl n (by omega) (by omega) (by decide) (if_pos hp_2) dX5_heardBy_28 ?_
          refine lv_astore (lv' := [(8, .ref (a 10 n)), (0, .ref (a 0 0)), (1, .ref (a 10 q)), (2, .long (i64 tick)), (4, .int (i32 (sumn (cut (S 5 0) (fhd S q tick)) n))), (5, .ref (a 4 0)), (6, .int (i32 8)), (7, .int (i32 (n : Int)))]) E.1 E.2.1 dX5_heardBy_29 hl (by decide) rfl (fun ls hl => ?_)
          refine lv_aload E.1 E.2.1 dX5_heardBy_31 (lv_at hl 0 rfl) ?_
          refine lv_ifnull E.1 E.2.1 dX5_heardBy_33 ?_
          refine lv_aload E.1 E.2.1 dX5_heardBy_36 (lv_at hl 0 rfl) ?_
          refine z_get E X (lC_10 M cA a G S n (by omega)) rfl iX0 2 (by decide) (by decide +kernel) (v := .int (i32 (1 - S 7 n))) rfl dX5_heardBy_38 ?_
          refine z_feq E 64 ⟨by omega, by omega⟩ dX5_heardBy_41 (by decide) (fun h41_3 => ?_) (fun h41_3 => ?_)
          · have ec1 : sumn (cut (S 5 0) (fhd S q tick)) (n + 1) = sumn (cut (S 5 0) (fhd S q tick)) n := by
              rw [cut_S, fhd]
              repeat' split
              all_goals omega
            have hl : lv_has ls 9 [(8, .ref (a 10 n)), (0, .ref (a 0 0)), (1, .ref (a 10 q)), (2, .long (i64 tick)), (4, .int (i32 (sumn (cut (S 5 0) (fhd S q tick)) (n + 1)))), (5, .ref (a 4 0)), (6, .int (i32 8)), (7, .int (i32 (n : Int)))] := by rw [ec1]; exact hl
            refine z_iinc (lv' := [(7, .int (i32 ((n + 1 : Nat) : Int))), (8, .ref (a 10 n)), (0, .ref (a 0 0)), (1, .ref (a 10 q)), (2, .long (i64 tick)), (4, .int (i32 (sumn (cut (S 5 0) (fhd S q tick)) (n + 1)))), (5, .ref (a 4 0)), (6, .int (i32 8))]) E dX5_heardBy_64 hl (k := 7) rfl (by decide) rfl (fun ls hl => ?_)
            refine lv_goto (tgt := 17) E.1 E.2.1 dX5_heardBy_67 (by decide) ?_
            exact ih17 (n + 1) G _ _ _ (by omega) (by omega) hG X (lv_sub hl [2, 3, 4, 5, 6, 7, 0] rfl)
          · refine lv_iload E.1 E.2.1 dX5_heardBy_44 (lv_at hl 4 rfl) ?_
            refine lv_aload_n E.1 E.2.1 dX5_heardBy_46 rfl (lv_at hl 1 rfl) ?_
            refine lv_aload E.1 E.2.1 dX5_heardBy_47 (lv_at hl 0 rfl) ?_
            refine lv_aload_n E.1 E.2.1 dX5_heardBy_49 rfl (lv_at hl 2 rfl) ?_
            refine lv_lload_n E.1 E.2.1 dX5_heardBy_50 rfl (lv_at hl 3 rfl) ?_
            refine lv_aload E.1 E.2.1 dX5_heardBy_51 (lv_at hl 0 rfl) ?_
            refine z_get E X (lC_10 M cA a G S n (by omega)) rfl iX0 3 (by decide) (by decide +kernel) (v := .int (i32 (G 10 n 0))) rfl dX5_heardBy_53 ?_
            refine z_top (S 18 n) (hG.2.2.2.2.2.1 hfo n (by omega) (by omega)) ?_
            refine z_i2l E ⟨by omega, by omega⟩ dX5_heardBy_56 ?_
            refine z_lsub E dX5_heardBy_57 ?_
            refine z_callV (As := [.ref (a 10 n), .ref (a 10 q), .long (i64 (tick - (S 18 n)))]) (rest := [.int (i32 (sumn (cut (S 5 0) (fhd S q tick)) n))]) (n := 3) E X (lC_0 M cA a G S) rfl (x_echoAt l D cA B0 M a G S hI hG n q (tick - (S 18 n)) (by omega) (by omega) (by unfold zrl; omega)) gX5_heardBy_X5_echoAt rfl (by decide +kernel) ⟨by decide, by decide⟩ rfl hl.1 rfl (Nat.le_of_ble_eq_true rfl) dX5_heardBy_58 ⟨by decide, by decide⟩ X.1 0 0 ⟨rfl, rfl⟩ (fun v H locs hv hS_4 => ?_)
            obtain ⟨rfl, G_5, hG, hw⟩ := hv
            replace X : zX D B0 (zj (layC cA a G_5 S) M) s.heap H locs := ⟨hw, hS_4⟩
            have f_6 := EC_rng (a := n) (b := q) (tick := (tick - (S 18 n))) hI
            refine z_iadd E dX5_heardBy_61 ?_
            refine lv_istore (lv' := [(4, .int (i32 ((sumn (cut (S 5 0) (fhd S q tick)) n) + (EC S n q (tick - (S 18 n)))))), (8, .ref (a 10 n)), (0, .ref (a 0 0)), (1, .ref (a 10 q)), (2, .long (i64 tick)), (5, .ref (a 4 0)), (6, .int (i32 8)), (7, .int (i32 (n : Int)))]) E.1 E.2.1 dX5_heardBy_62 hl (by decide) rfl (fun ls hl => ?_)
            have ec1 : sumn (cut (S 5 0) (fhd S q tick)) (n + 1) = (sumn (cut (S 5 0) (fhd S q tick)) n) + (EC S n q (tick - (S 18 n))) := by
              rw [cut_S, fhd]
              repeat' split
              all_goals omega
            have hl : lv_has ls 9 [(4, .int (i32 (sumn (cut (S 5 0) (fhd S q tick)) (n + 1)))), (8, .ref (a 10 n)), (0, .ref (a 0 0)), (1, .ref (a 10 q)), (2, .long (i64 tick)), (5, .ref (a 4 0)), (6, .int (i32 8)), (7, .int (i32 (n : Int)))] := by rw [ec1]; exact hl
            refine z_iinc (lv' := [(7, .int (i32 ((n + 1 : Nat) : Int))), (4, .int (i32 (sumn (cut (S 5 0) (fhd S q tick)) (n + 1)))), (8, .ref (a 10 n)), (0, .ref (a 0 0)), (1, .ref (a 10 q)), (2, .long (i64 tick)), (5, .ref (a 4 0)), (6, .int (i32 8))]) E dX5_heardBy_64 hl (k := 7) rfl (by decide) rfl (fun ls hl => ?_)
            refine lv_goto (tgt := 17) E.1 E.2.1 dX5_heardBy_67 (by decide) ?_
            exact ih17 (n + 1) G_5 _ _ _ (by omega) (by omega) hG X (lv_sub hl [3, 4, 5, 1, 6, 7, 0] rfl)
        · refine z_aldN (C := "EchoRow$Element") E X 2 (lC_4 M cA a G S) rfl n (by omega) (by omega) (by decide) (if_neg hp_2) dX5_heardBy_28 ?_
          refine lv_astoreN (lv' := [(8, .null), (0, .ref (a 0 0)), (1, .ref (a 10 q)), (2, .long (i64 tick)), (4, .int (i32 (sumn (cut (S 5 0) (fhd S q tick)) n))), (5, .ref (a 4 0)), (6, .int (i32 8)), (7, .int (i32 (n : Int)))]) E.1 E.2.1 dX5_heardBy_29 hl (by decide) rfl (fun ls hl => ?_)
          refine lv_aloadN E.1 E.2.1 dX5_heardBy_31 (lv_at hl 0 rfl) ?_
          refine lv_ifnullN (tgt := 64) E.1 E.2.1 dX5_heardBy_33 (by decide) ?_
          have ec1 : sumn (cut (S 5 0) (fhd S q tick)) (n + 1) = sumn (cut (S 5 0) (fhd S q tick)) n := by
            rw [cut_S, fhd]
            repeat' split
            all_goals omega
          have hl : lv_has ls 9 [(8, .null), (0, .ref (a 0 0)), (1, .ref (a 10 q)), (2, .long (i64 tick)), (4, .int (i32 (sumn (cut (S 5 0) (fhd S q tick)) (n + 1)))), (5, .ref (a 4 0)), (6, .int (i32 8)), (7, .int (i32 (n : Int)))] := by rw [ec1]; exact hl
          refine z_iinc (lv' := [(7, .int (i32 ((n + 1 : Nat) : Int))), (8, .null), (0, .ref (a 0 0)), (1, .ref (a 10 q)), (2, .long (i64 tick)), (4, .int (i32 (sumn (cut (S 5 0) (fhd S q tick)) (n + 1)))), (5, .ref (a 4 0)), (6, .int (i32 8))]) E dX5_heardBy_64 hl (k := 7) rfl (by decide) rfl (fun ls hl => ?_)
          refine lv_goto (tgt := 17) E.1 E.2.1 dX5_heardBy_67 (by decide) ?_
          exact ih17 (n + 1) G _ _ _ (by omega) (by omega) hG X (lv_sub hl [2, 3, 4, 5, 6, 7, 0] rfl)
  exact key17 ((8 - 0) + 1) 0 G _ _ _ (by omega) (by omega) hG X (lv_sub hl [4, 5, 6, 3, 2, 1, 0] rfl)

abbrev rX5_fits : Room := { frames := 3, cells := 0, slots := 0, locals := 76 }
set_option maxHeartbeats 4000000 in
set_option maxRecDepth 100000 in
theorem x_fits (l : Launch) (D : va_G) (cA : Nat → ClassId) (B0 : Nat) (M : zL) (a : Nat → Nat → Nat) (G : zG) (S : zS) (hI : SI S) (hG : CG S G) (x y : Nat) (wi : Int) (hx : x ≤ 50) (hy : S 1 0 ≤ (y : Int) ∧ (y : Int) ≤ S 1 0 + S 2 0) (hwi : 0 ≤ wi ∧ wi ≤ 100) : zM l yX5_fits wsX5_fits rX5_fits [.ref (a 0 0), .int (i32 (x : Int)), .int (i32 (y : Int)), .int (i32 wi)] D cA B0 (zW D B0 (zj (layC cA a G S) M)) (fun v H => (∃ z : Int, v = some (.int (i32 z)) ∧ z = if nearb S wi x y then 1 else 0) ∧ ∃ G : zG, CG S G ∧ zW D B0 (zj (layC cA a G S) M) H) := by
  refine z_met (cc := cX5_fits) (maxL := 9) (ret := (some .boolean)) (by decide) rfl (Nat.le_of_ble_eq_true rfl) ?_
  intro p e s m args below meth c ls Q hQ E hP hB hS hl
  have hl : lv_has ls 9 [(0, .ref (a 0 0)), (1, .int (i32 (x : Int))), (2, .int (i32 (y : Int))), (3, .int (i32 wi))] := hl
  have iX0 : ∀ w ∈ u_ws RX0 TX0 4, w ∈ wsX5_fits := by decide +kernel
  have iX4 : ∀ w ∈ u_ws RX4 TX4 3, w ∈ wsX5_fits := by decide +kernel
  have iX5 : ∀ w ∈ u_ws RX5 TX5 11, w ∈ wsX5_fits := by decide +kernel
  have X : zX D B0 (zj (layC cA a G S) M) s.heap s.heap [] := ⟨hP, hS⟩
  have hI0 := hI.1
  unfold SI0 at hI0
  obtain ⟨b1, b2, b3, b4, b5, b8, b17, b19, b7⟩ := hI0
  refine lv_aload_n E.1 E.2.1 dX5_fits_0 rfl (lv_at hl 0 rfl) ?_
  refine z_get E X (lC_0 M cA a G S) rfl iX5 3 (by decide) (by decide +kernel) (v := .ref (a 6 0)) rfl dX5_fits_1 ?_
  refine lv_astore (lv' := [(4, .ref (a 6 0)), (0, .ref (a 0 0)), (1, .int (i32 (x : Int))), (2, .int (i32 (y : Int))), (3, .int (i32 wi))]) E.1 E.2.1 dX5_fits_4 hl (by decide) rfl (fun ls hl => ?_)
  refine lv_aload E.1 E.2.1 dX5_fits_6 (lv_at hl 0 rfl) ?_
  refine z_alen (z := 6) E X 4 (lC_6 M cA a G S) rfl (by omega) dX5_fits_8 ?_
  refine lv_istore (lv' := [(5, .int (i32 6)), (4, .ref (a 6 0)), (0, .ref (a 0 0)), (1, .int (i32 (x : Int))), (2, .int (i32 (y : Int))), (3, .int (i32 wi))]) E.1 E.2.1 dX5_fits_9 hl (by decide) rfl (fun ls hl => ?_)
  refine z_iconst E dX5_fits_11 ?_
  refine z_top (0 : Int) (rfl) ?_
  refine lv_istore (lv' := [(6, .int (i32 (0 : Int))), (5, .int (i32 6)), (4, .ref (a 6 0)), (0, .ref (a 0 0)), (1, .int (i32 (x : Int))), (2, .int (i32 (y : Int))), (3, .int (i32 wi))]) E.1 E.2.1 dX5_fits_12 hl (by decide) rfl (fun ls hl => ?_)
  have key14 : ∀ (N : Nat) (n : Nat) (G : zG) (H : Heap) (locs : List Loc) (ls : Array Slot), (6 - n) < N → (n ≤ 6) → (CG S G) → (∀ k : Nat, k < n → (k : Int) < S 19 0 → fnb S wi x y k = true) → zX D B0 (zj (layC cA a G S) M) s.heap H locs → lv_has ls 9 [(0, .ref (a 0 0)), (1, .int (i32 (x : Int))), (2, .int (i32 (y : Int))), (3, .int (i32 wi)), (4, .ref (a 6 0)), (5, .int (i32 6)), (6, .int (i32 (n : Int)))] → W p l e rX5_fits s m args below meth c H locs 0 0 Q (F0 m 14 ls []) := by
    intro N
    induction N with
    | zero => intros; omega
    | succ N ih14 =>
      intro n G H locs ls hN hn hG hal X hl
      refine lv_iload E.1 E.2.1 dX5_fits_14 (lv_at hl 6 rfl) ?_
      refine lv_iload E.1 E.2.1 dX5_fits_16 (lv_at hl 5 rfl) ?_
      refine z_cge E 93 ⟨by omega, by omega⟩ ⟨by omega, by omega⟩ dX5_fits_18 (by decide) (fun h18_1 => ?_) (fun h18_1 => ?_)
      · refine z_iconst E dX5_fits_93 ?_
        have hya : nearb S wi x y = true := alln_all (fun k hk => hal k (by omega) (by omega))
        exact z_retz E X hQ (by omega) (⟨⟨1, rfl, by rw [hya]; rfl⟩, G, hG, X.1⟩) dX5_fits_94
      · refine lv_aload E.1 E.2.1 dX5_fits_21 (lv_at hl 4 rfl) ?_
        refine lv_iload E.1 E.2.1 dX5_fits_23 (lv_at hl 6 rfl) ?_
        by_cases hp_2 : ((n : Nat) : Int) < S 19 0
        · refine z_aldS (C := "EchoRow$Told") E X 4 (lC_6 M cA a G S) rfl n (by omega) (by omega) (by decide) (if_pos hp_2) dX5_fits_25 ?_
          refine lv_astore (lv' := [(7, .ref (a 14 n)), (0, .ref (a 0 0)), (1, .int (i32 (x : Int))), (2, .int (i32 (y : Int))), (3, .int (i32 wi)), (4, .ref (a 6 0)), (5, .int (i32 6)), (6, .int (i32 (n : Int)))]) E.1 E.2.1 dX5_fits_26 hl (by decide) rfl (fun ls hl => ?_)
          refine lv_aload E.1 E.2.1 dX5_fits_28 (lv_at hl 0 rfl) ?_
          refine lv_ifnull E.1 E.2.1 dX5_fits_30 ?_
          have h3 := hI.2.2.2.1 n (by omega)
          refine lv_aload_n E.1 E.2.1 dX5_fits_33 rfl (lv_at hl 1 rfl) ?_
          refine z_get E X (lC_0 M cA a G S) rfl iX5 0 (by decide) (by decide +kernel) (v := .ref (a 1 0)) rfl dX5_fits_34 ?_
          refine lv_aload E.1 E.2.1 dX5_fits_37 (lv_at hl 0 rfl) ?_
          refine z_get E X (lC_14 M cA a G S n (by omega)) rfl iX4 0 (by decide) (by decide +kernel) (v := .ref (a 10 ((S 20 n).toNat))) rfl dX5_fits_39 ?_
          refine z_get E X (lC_10 M cA a G S ((S 20 n).toNat) (by omega)) rfl iX0 1 (by decide) (by decide +kernel) (v := .int (i32 (S 6 ((S 20 n).toNat)))) rfl dX5_fits_42 ?_
          refine lv_iload_n E.1 E.2.1 dX5_fits_45 rfl (lv_at hl 2 rfl) ?_
          refine lv_iload_n E.1 E.2.1 dX5_fits_46 rfl (lv_at hl 3 rfl) ?_
          replace X := cl_in X
          have hLi := LI_of hI hG
          have h6_3 := hI.2.1 ((S 20 n).toNat) (by omega)
          refine z_callV (As := [.int (i32 (S 6 ((S 20 n).toNat))), .int (i32 (x : Int)), .int (i32 (y : Int))]) (rest := []) (n := 3) E X (lL_0 _ cA (hL a) (TL S G)) rfl (L_timeTo l D cA B0 (zj (layC cA a G S) M) (hL a) (TL S G) (S 3 0) (SI_u hI) hLi (S 6 ((S 20 n).toNat)) (x : Int) (y : Int) h6_3 (by omega) (show S 1 0 ≤ (y : Int) ∧ (y : Int) ≤ S 1 0 + S 2 0 by omega)) gX5_fits_X1_timeTo rfl (by decide +kernel) ⟨by decide, by decide⟩ rfl hl.1 rfl (Nat.le_of_ble_eq_true rfl) dX5_fits_47 ⟨by decide, by decide⟩ X.1 0 0 ⟨rfl, rfl⟩ (fun v H locs hv hS_4 => ?_)
          obtain ⟨rfl, T_5, hLIT_5, hsT_5, hw⟩ := hv
          obtain ⟨G_6, hG, hgkG_6, X⟩ := cl_back hG ⟨hw, hS_4⟩ hLIT_5 hsT_5
          refine z_top (TM S ((S 20 n).toNat) x y) (TM_fb (S := S) (q := ((S 20 n).toNat)) (x := x) (y := y) h6_3.1).1.symm ?_
          have f_7 := TM_rng (S := S) (e := ((S 20 n).toNat)) (x := x) (y := y) hI.1 hI.2.1 (by omega) (by omega) (by omega)
          refine lv_aload_n E.1 E.2.1 dX5_fits_50 rfl (lv_at hl 1 rfl) ?_
          refine z_get E X (lC_0 M cA a G_6 S) rfl iX5 0 (by decide) (by decide +kernel) (v := .ref (a 1 0)) rfl dX5_fits_51 ?_
          refine lv_aload E.1 E.2.1 dX5_fits_54 (lv_at hl 0 rfl) ?_
          refine z_get E X (lC_14 M cA a G_6 S n (by omega)) rfl iX4 1 (by decide) (by decide +kernel) (v := .ref (a 10 ((S 21 n).toNat))) rfl dX5_fits_56 ?_
          refine z_get E X (lC_10 M cA a G_6 S ((S 21 n).toNat) (by omega)) rfl iX0 1 (by decide) (by decide +kernel) (v := .int (i32 (S 6 ((S 21 n).toNat)))) rfl dX5_fits_59 ?_
          refine lv_iload_n E.1 E.2.1 dX5_fits_62 rfl (lv_at hl 2 rfl) ?_
          refine lv_iload_n E.1 E.2.1 dX5_fits_63 rfl (lv_at hl 3 rfl) ?_
          replace X := cl_in X
          have hLi := LI_of hI hG
          have h6_8 := hI.2.1 ((S 21 n).toNat) (by omega)
          refine z_callV (As := [.int (i32 (S 6 ((S 21 n).toNat))), .int (i32 (x : Int)), .int (i32 (y : Int))]) (rest := [.int (i32 (TM S ((S 20 n).toNat) x y))]) (n := 3) E X (lL_0 _ cA (hL a) (TL S G_6)) rfl (L_timeTo l D cA B0 (zj (layC cA a G_6 S) M) (hL a) (TL S G_6) (S 3 0) (SI_u hI) hLi (S 6 ((S 21 n).toNat)) (x : Int) (y : Int) h6_8 (by omega) (show S 1 0 ≤ (y : Int) ∧ (y : Int) ≤ S 1 0 + S 2 0 by omega)) gX5_fits_X1_timeTo rfl (by decide +kernel) ⟨by decide, by decide⟩ rfl hl.1 rfl (Nat.le_of_ble_eq_true rfl) dX5_fits_64 ⟨by decide, by decide⟩ X.1 0 0 ⟨rfl, rfl⟩ (fun v H locs hv hS_9 => ?_)
          obtain ⟨rfl, T_10, hLIT_10, hsT_10, hw⟩ := hv
          obtain ⟨G_11, hG, hgkG_11, X⟩ := cl_back hG ⟨hw, hS_9⟩ hLIT_10 hsT_10
          refine z_top (TM S ((S 21 n).toNat) x y) (TM_fb (S := S) (q := ((S 21 n).toNat)) (x := x) (y := y) h6_8.1).1.symm ?_
          have f_12 := TM_rng (S := S) (e := ((S 21 n).toNat)) (x := x) (y := y) hI.1 hI.2.1 (by omega) (by omega) (by omega)
          refine z_iadd E dX5_fits_67 ?_
          refine lv_istore (lv' := [(8, .int (i32 ((TM S ((S 20 n).toNat) x y) + (TM S ((S 21 n).toNat) x y)))), (7, .ref (a 14 n)), (0, .ref (a 0 0)), (1, .int (i32 (x : Int))), (2, .int (i32 (y : Int))), (3, .int (i32 wi)), (4, .ref (a 6 0)), (5, .int (i32 6)), (6, .int (i32 (n : Int)))]) E.1 E.2.1 dX5_fits_68 hl (by decide) rfl (fun ls hl => ?_)
          refine lv_iload E.1 E.2.1 dX5_fits_70 (lv_at hl 0 rfl) ?_
          refine lv_aload E.1 E.2.1 dX5_fits_72 (lv_at hl 1 rfl) ?_
          refine z_get E X (lC_14 M cA a G_11 S n (by omega)) rfl iX4 2 (by decide) (by decide +kernel) (v := .int (i32 (S 22 n))) rfl dX5_fits_74 ?_
          refine z_isub E dX5_fits_77 ?_
          refine z_top (far S x y n) (rfl) ?_
          have hz9 : (0 ≤ far S x y n ∧ zabs (far S x y n) = far S x y n) ∨ (far S x y n < 0 ∧ zabs (far S x y n) = -(far S x y n)) := by unfold zabs; split <;> omega
          have hfr : far S x y n = TM S (S 20 n).toNat x y + TM S (S 21 n).toNat x y - S 22 n := rfl
          refine z_mabs E ⟨by omega, by omega⟩ (by decide +kernel) (by decide +kernel) (by decide +kernel) (by decide +kernel) hl.1 (by decide) (Nat.le_of_ble_eq_true rfl) ⟨by decide, by decide⟩ dX5_fits_78 ?_
          refine lv_iload_n E.1 E.2.1 dX5_fits_81 rfl (lv_at hl 5 rfl) ?_
          refine z_cle E 87 ⟨by omega, by omega⟩ ⟨by omega, by omega⟩ dX5_fits_82 (by decide) (fun h82_13 => ?_) (fun h82_13 => ?_)
          · refine z_iinc (lv' := [(6, .int (i32 ((n + 1 : Nat) : Int))), (8, .int (i32 ((TM S ((S 20 n).toNat) x y) + (TM S ((S 21 n).toNat) x y)))), (7, .ref (a 14 n)), (0, .ref (a 0 0)), (1, .int (i32 (x : Int))), (2, .int (i32 (y : Int))), (3, .int (i32 wi)), (4, .ref (a 6 0)), (5, .int (i32 6))]) E dX5_fits_87 hl (k := 8) rfl (by decide) rfl (fun ls hl => ?_)
            refine lv_goto (tgt := 14) E.1 E.2.1 dX5_fits_90 (by decide) ?_
            exact ih14 (n + 1) G_11 _ _ _ (by omega) (by omega) hG (fun k hk hk2 => by rcases Nat.lt_or_ge k n with q | q; exact hal k q hk2; rw [show k = n by omega] at hk2 ⊢; exact (if hq : (n : Int) < S 19 0 then (by first | (exfalso; omega) | exact decide_eq_true (by omega)) else (absurd hk2 hq))) X (lv_sub hl [3, 4, 5, 6, 7, 8, 0] rfl)
          · refine z_iconst E dX5_fits_85 ?_
            have hno : nearb S wi x y = false := alln_no (n := n) (decide_eq_false (by omega)) (by omega)
            exact z_retz E X hQ (by omega) (⟨⟨0, rfl, by rw [hno]; rfl⟩, G_11, hG, X.1⟩) dX5_fits_86
        · refine z_aldN (C := "EchoRow$Told") E X 4 (lC_6 M cA a G S) rfl n (by omega) (by omega) (by decide) (if_neg hp_2) dX5_fits_25 ?_
          refine lv_astoreN (lv' := [(7, .null), (0, .ref (a 0 0)), (1, .int (i32 (x : Int))), (2, .int (i32 (y : Int))), (3, .int (i32 wi)), (4, .ref (a 6 0)), (5, .int (i32 6)), (6, .int (i32 (n : Int)))]) E.1 E.2.1 dX5_fits_26 hl (by decide) rfl (fun ls hl => ?_)
          refine lv_aloadN E.1 E.2.1 dX5_fits_28 (lv_at hl 0 rfl) ?_
          refine lv_ifnullN (tgt := 87) E.1 E.2.1 dX5_fits_30 (by decide) ?_
          refine z_iinc (lv' := [(6, .int (i32 ((n + 1 : Nat) : Int))), (7, .null), (0, .ref (a 0 0)), (1, .int (i32 (x : Int))), (2, .int (i32 (y : Int))), (3, .int (i32 wi)), (4, .ref (a 6 0)), (5, .int (i32 6))]) E dX5_fits_87 hl (k := 7) rfl (by decide) rfl (fun ls hl => ?_)
          refine lv_goto (tgt := 14) E.1 E.2.1 dX5_fits_90 (by decide) ?_
          exact ih14 (n + 1) G _ _ _ (by omega) (by omega) hG (fun k hk hk2 => by rcases Nat.lt_or_ge k n with q | q; exact hal k q hk2; rw [show k = n by omega] at hk2 ⊢; exact (if hq : (n : Int) < S 19 0 then (by first | (exfalso; omega) | exact decide_eq_true (by omega)) else (absurd hk2 hq))) X (lv_sub hl [2, 3, 4, 5, 6, 7, 0] rfl)
  exact key14 ((6 - 0) + 1) 0 G _ _ _ (by omega) (by omega) hG (fun k hk => absurd hk (Nat.not_lt_zero k)) X (lv_sub hl [3, 4, 5, 6, 2, 1, 0] rfl)

