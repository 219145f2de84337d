/-! the first state -/
def zS0 : zS := fun k _ => match k with
  | 2 => 30
  | 3 => 1
  | 4 => 1
  | 23 => -1
  | _ => 0
def zU0 : zS := fun _ _ => 0
theorem SI_0 : SI zS0 := by
  refine ⟨⟨⟨by decide, by decide⟩, ⟨by decide, by decide⟩, ⟨by decide, by decide⟩, ⟨by decide, by decide⟩, ⟨by decide, by decide⟩, ⟨by decide, by decide⟩, ⟨by decide, by decide⟩, ⟨by decide, by decide⟩, fun j => (⟨Int.le_refl 0, by decide⟩ : (0 : Int) ≤ 0 ∧ (0 : Int) ≤ 1)⟩, fun j hj => ?_, fun j hj => ?_, fun j hj => ?_, ⟨fun j hj => (⟨⟨by decide, by decide⟩, ⟨by decide, by decide⟩⟩ : ((-1 : Int) ≤ -1 ∧ (-1 : Int) ≤ 64) ∧ ((0 : Int) ≤ 0 ∧ (0 : Int) ≤ 2)), fun j => zr0⟩, fun j => (⟨by decide, by decide⟩ : (-5000 : Int) ≤ 0 ∧ (0 : Int) ≤ 5000)⟩
  · have hj : (j : Int) < 0 := hj
    omega
  · have hj : (j : Int) < 0 := hj
    omega
  · have hj : (j : Int) < 0 := hj
    omega
def hl3 (q q1 q2 q3 q4 : Nat) : Nat → Nat := fun k => match k with
  | 0 => q
  | 3 => q1
  | 4 => q2
  | 5 => q3
  | 6 => q4
  | _ => 0
theorem li_in {D : va_G} {B0 : Nat} {L : zL} {cA : Nat → ClassId} {q q1 q2 q3 q4 : Nat} {H0 H : Heap} {locs : List Loc} (X : zX D B0 (zu (zu (zu (zu (zu L 1 0 (some (q, .inr (1, [.int (i32 0), .int (i32 0), .int (i32 0), .ref q1, .ref q2, .ref q3, .ref q4])))) 2 0 (some (kI cA q1 51 (fun _ => 0)))) 3 0 (some (kI cA q2 51 (fun _ => 0)))) 9 0 (some (kI cA q3 1632 (fun _ => 0)))) 11 0 (some (kZ cA q4 32 (fun _ => 0)))) H0 H locs) : zX D B0 (zl (layL cA (hl3 q q1 q2 q3 q4) zU0) L) H0 H locs := by
  refine X.less (fun k i y hy => ?_)
  by_cases h1 : k = 1
  · subst h1
    have hy : (if i = 0 then some (q, Sum.inr (1, ([.int (i32 0), .int (i32 0), .int (i32 0), .ref q1, .ref q2, .ref q3, .ref q4] : List Value))) else none) = some y := hy
    by_cases hi : i = 0
    · subst hi
      rw [if_pos rfl] at hy
      rw [zu_ne (by omega), zu_ne (by omega), zu_ne (by omega), zu_ne (by omega), zu_self]
      exact hy
    · rw [if_neg hi] at hy
      cases hy
  by_cases h2 : k = 2
  · subst h2
    have hy : (if i = 0 then some (kI cA q1 51 (fun _ => 0)) else none) = some y := hy
    by_cases hi : i = 0
    · subst hi
      rw [if_pos rfl] at hy
      rw [zu_ne (by omega), zu_ne (by omega), zu_ne (by omega), zu_self]
      exact hy
    · rw [if_neg hi] at hy
      cases hy
  by_cases h3 : k = 3
  · subst h3
    have hy : (if i = 0 then some (kI cA q2 51 (fun _ => 0)) else none) = some y := hy
    by_cases hi : i = 0
    · subst hi
      rw [if_pos rfl] at hy
      rw [zu_ne (by omega), zu_ne (by omega), zu_self]
      exact hy
    · rw [if_neg hi] at hy
      cases hy
  by_cases h9 : k = 9
  · subst h9
    have hy : (if i = 0 then some (kI cA q3 1632 (fun _ => 0)) else none) = some y := hy
    by_cases hi : i = 0
    · subst hi
      rw [if_pos rfl] at hy
      rw [zu_ne (by omega), zu_self]
      exact hy
    · rw [if_neg hi] at hy
      cases hy
  by_cases h11 : k = 11
  · subst h11
    have hy : (if i = 0 then some (kZ cA q4 32 (fun _ => 0)) else none) = some y := hy
    by_cases hi : i = 0
    · subst hi
      rw [if_pos rfl] at hy
      rw [zu_self]
      exact hy
    · rw [if_neg hi] at hy
      cases hy
  rw [zu_ne (by omega), zu_ne (by omega), zu_ne (by omega), zu_ne (by omega), zu_ne (by omega), ← hy]
  exact (zl_no h1 h2 h3 h9 h11).symm
abbrev rX1_init : Room := { frames := 2, cells := 4, slots := 1766, locals := 50 }
set_option maxHeartbeats 4000000 in
set_option maxRecDepth 100000 in
theorem L_init (l : Launch) (D : va_G) (cA : Nat → ClassId) (B0 : Nat) (L : zL) (q : Nat) : zM l yX1_init wsX1_init rX1_init [.ref q] D cA B0 (zW D B0 (zu L 1 0 (some (q, .inr (1, [.int (i32 0), .int (i32 0), .int (i32 0), .null, .null, .null, .null]))))) (fun v H => v = none ∧ ∃ (h : Nat → Nat) (T : zS), h 0 = q ∧ LI T 1 ∧ T 0 0 = 0 ∧ T 1 0 = 30 ∧ T 2 0 = 1 ∧ zW D B0 (zl (layL cA h T) L) H) := by
  refine z_met (cc := cX1_init) (maxL := 1) (ret := none) (by decide) rfl (Nat.le_of_ble_eq_true rfl) ?_
  intro p e s m args below meth c ls Q hQ E hP hB hS hl
  have hl : lv_has ls 1 [(0, .ref q)] := hl
  have iX1 : ∀ w ∈ u_ws RX1 TX1 7, w ∈ wsX1_init := by decide +kernel
  have X : zX D B0 (zu L 1 0 (some (q, .inr (1, [.int (i32 0), .int (i32 0), .int (i32 0), .null, .null, .null, .null])))) s.heap s.heap [] := ⟨hP, hS⟩
  refine lv_aload_n E.1 E.2.1 dX1_init_0 rfl (lv_at hl 0 rfl) ?_
  refine z_obj E (by decide +kernel) (by decide +kernel) (by decide +kernel) hl.1 dX1_init_1 (by decide) (Nat.le_of_ble_eq_true rfl) ?_
  refine lv_aload_n E.1 E.2.1 dX1_init_4 rfl (lv_at hl 0 rfl) ?_
  refine z_bipush E dX1_init_5 (by decide +kernel) ?_
  refine z_newi (N := 51) E X 2 0 (by decide +kernel) (by omega) (by decide) (by decide) (by decide) dX1_init_7 (fun q_1 H X => ?_)
  have X : zX D B0 (zu (zu L 1 0 (some (q, .inr (1, [.int (i32 0), .int (i32 0), .int (i32 0), .null, .null, .null, .null])))) 2 0 (some (kI cA q_1 51 (fun _ => 0)))) s.heap H _ := X
  refine W.widen (k := 1) (n := 51) (by omega) (by omega) ?_
  refine z_putF E X rfl (show (zu (zu L 1 0 (some (q, .inr (1, [.int (i32 0), .int (i32 0), .int (i32 0), .null, .null, .null, .null])))) 2 0 (some (kI cA q_1 51 (fun _ => 0)))) 1 0 = some (q, .inr (1, [.int (i32 0), .int (i32 0), .int (i32 0), .null, .null, .null, .null])) by simp [zu]) rfl iX1 tyX1 tyX1_ok nmX1 3 (by decide) (by decide +kernel) rfl rfl rfl rfl (Nat.le_of_ble_eq_true rfl) dX1_init_9 (fun H locs X => ?_)
  have X : zX D B0 (zu (zu L 1 0 (some (q, .inr (1, [.int (i32 0), .int (i32 0), .int (i32 0), .ref q_1, .null, .null, .null])))) 2 0 (some (kI cA q_1 51 (fun _ => 0)))) s.heap H locs := X.to (fun k i => by simp only [zu]; (repeat' split) <;> first | rfl | (exfalso; omega))
  refine lv_aload_n E.1 E.2.1 dX1_init_12 rfl (lv_at hl 0 rfl) ?_
  refine z_bipush E dX1_init_13 (by decide +kernel) ?_
  refine z_newi (N := 51) E X 3 0 (by decide +kernel) (by omega) (by decide) (by decide) (by decide) dX1_init_15 (fun q_2 H X => ?_)
  have X : zX D B0 (zu (zu (zu L 1 0 (some (q, .inr (1, [.int (i32 0), .int (i32 0), .int (i32 0), .ref q_1, .null, .null, .null])))) 2 0 (some (kI cA q_1 51 (fun _ => 0)))) 3 0 (some (kI cA q_2 51 (fun _ => 0)))) s.heap H _ := X
  refine W.widen (k := 2) (n := 102) (by omega) (by omega) ?_
  refine z_putF E X rfl (show (zu (zu (zu L 1 0 (some (q, .inr (1, [.int (i32 0), .int (i32 0), .int (i32 0), .ref q_1, .null, .null, .null])))) 2 0 (some (kI cA q_1 51 (fun _ => 0)))) 3 0 (some (kI cA q_2 51 (fun _ => 0)))) 1 0 = some (q, .inr (1, [.int (i32 0), .int (i32 0), .int (i32 0), .ref q_1, .null, .null, .null])) by simp [zu]) rfl iX1 tyX1 tyX1_ok nmX1 4 (by decide) (by decide +kernel) rfl rfl rfl rfl (Nat.le_of_ble_eq_true rfl) dX1_init_17 (fun H locs X => ?_)
  have X : zX D B0 (zu (zu (zu L 1 0 (some (q, .inr (1, [.int (i32 0), .int (i32 0), .int (i32 0), .ref q_1, .ref q_2, .null, .null])))) 2 0 (some (kI cA q_1 51 (fun _ => 0)))) 3 0 (some (kI cA q_2 51 (fun _ => 0)))) s.heap H locs := X.to (fun k i => by simp only [zu]; (repeat' split) <;> first | rfl | (exfalso; omega))
  refine lv_aload_n E.1 E.2.1 dX1_init_20 rfl (lv_at hl 0 rfl) ?_
  refine z_sipush E dX1_init_21 (by decide +kernel) ?_
  refine z_newi (N := 1632) E X 9 0 (by decide +kernel) (by omega) (by decide) (by decide) (by decide) dX1_init_24 (fun q_3 H X => ?_)
  have X : zX D B0 (zu (zu (zu (zu L 1 0 (some (q, .inr (1, [.int (i32 0), .int (i32 0), .int (i32 0), .ref q_1, .ref q_2, .null, .null])))) 2 0 (some (kI cA q_1 51 (fun _ => 0)))) 3 0 (some (kI cA q_2 51 (fun _ => 0)))) 9 0 (some (kI cA q_3 1632 (fun _ => 0)))) s.heap H _ := X
  refine W.widen (k := 3) (n := 1734) (by omega) (by omega) ?_
  refine z_putF E X rfl (show (zu (zu (zu (zu L 1 0 (some (q, .inr (1, [.int (i32 0), .int (i32 0), .int (i32 0), .ref q_1, .ref q_2, .null, .null])))) 2 0 (some (kI cA q_1 51 (fun _ => 0)))) 3 0 (some (kI cA q_2 51 (fun _ => 0)))) 9 0 (some (kI cA q_3 1632 (fun _ => 0)))) 1 0 = some (q, .inr (1, [.int (i32 0), .int (i32 0), .int (i32 0), .ref q_1, .ref q_2, .null, .null])) by simp [zu]) rfl iX1 tyX1 tyX1_ok nmX1 5 (by decide) (by decide +kernel) rfl rfl rfl rfl (Nat.le_of_ble_eq_true rfl) dX1_init_26 (fun H locs X => ?_)
  have X : zX D B0 (zu (zu (zu (zu L 1 0 (some (q, .inr (1, [.int (i32 0), .int (i32 0), .int (i32 0), .ref q_1, .ref q_2, .ref q_3, .null])))) 2 0 (some (kI cA q_1 51 (fun _ => 0)))) 3 0 (some (kI cA q_2 51 (fun _ => 0)))) 9 0 (some (kI cA q_3 1632 (fun _ => 0)))) s.heap H locs := X.to (fun k i => by simp only [zu]; (repeat' split) <;> first | rfl | (exfalso; omega))
  refine lv_aload_n E.1 E.2.1 dX1_init_29 rfl (lv_at hl 0 rfl) ?_
  refine z_bipush E dX1_init_30 (by decide +kernel) ?_
  refine z_newz (N := 32) E X 11 0 (by decide +kernel) (by omega) (by decide) (by decide) (by decide) dX1_init_32 (fun q_4 H X => ?_)
  have X : zX D B0 (zu (zu (zu (zu (zu L 1 0 (some (q, .inr (1, [.int (i32 0), .int (i32 0), .int (i32 0), .ref q_1, .ref q_2, .ref q_3, .null])))) 2 0 (some (kI cA q_1 51 (fun _ => 0)))) 3 0 (some (kI cA q_2 51 (fun _ => 0)))) 9 0 (some (kI cA q_3 1632 (fun _ => 0)))) 11 0 (some (kZ cA q_4 32 (fun _ => 0)))) s.heap H _ := X
  refine W.widen (k := 4) (n := 1766) (by omega) (by omega) ?_
  refine z_putF E X rfl (show (zu (zu (zu (zu (zu L 1 0 (some (q, .inr (1, [.int (i32 0), .int (i32 0), .int (i32 0), .ref q_1, .ref q_2, .ref q_3, .null])))) 2 0 (some (kI cA q_1 51 (fun _ => 0)))) 3 0 (some (kI cA q_2 51 (fun _ => 0)))) 9 0 (some (kI cA q_3 1632 (fun _ => 0)))) 11 0 (some (kZ cA q_4 32 (fun _ => 0)))) 1 0 = some (q, .inr (1, [.int (i32 0), .int (i32 0), .int (i32 0), .ref q_1, .ref q_2, .ref q_3, .null])) by simp [zu]) rfl iX1 tyX1 tyX1_ok nmX1 6 (by decide) (by decide +kernel) rfl rfl rfl rfl (Nat.le_of_ble_eq_true rfl) dX1_init_34 (fun H locs X => ?_)
  have X : zX D B0 (zu (zu (zu (zu (zu L 1 0 (some (q, .inr (1, [.int (i32 0), .int (i32 0), .int (i32 0), .ref q_1, .ref q_2, .ref q_3, .ref q_4])))) 2 0 (some (kI cA q_1 51 (fun _ => 0)))) 3 0 (some (kI cA q_2 51 (fun _ => 0)))) 9 0 (some (kI cA q_3 1632 (fun _ => 0)))) 11 0 (some (kZ cA q_4 32 (fun _ => 0)))) s.heap H locs := X.to (fun k i => by simp only [zu]; (repeat' split) <;> first | rfl | (exfalso; omega))
  refine lv_aload_n E.1 E.2.1 dX1_init_37 rfl (lv_at hl 0 rfl) ?_
  refine z_iconst E dX1_init_38 ?_
  refine z_bipush E dX1_init_39 (by decide +kernel) ?_
  refine z_iconst E dX1_init_41 ?_
  refine z_iconst E dX1_init_42 ?_
  replace X := li_in X
  refine z_callV (As := [.int (i32 0), .int (i32 30), .int (i32 1), .int (i32 1)]) (rest := []) (n := 4) E X (lL_0 L cA (hl3 q q_1 q_2 q_3 q_4) zU0) rfl (L_lay l D cA B0 L (hl3 q q_1 q_2 q_3 q_4) zU0 0 30 1 1 ⟨by decide, by decide⟩ ⟨by decide, by decide⟩ ⟨by decide, by decide⟩ ⟨by decide, by decide⟩) gX1_init_X1_lay rfl (by decide +kernel) ⟨by decide, by decide⟩ rfl hl.1 rfl (Nat.le_of_ble_eq_true rfl) dX1_init_43 ⟨by decide, by decide⟩ X.1 4 1766 ⟨rfl, rfl⟩ (fun v H locs hv hS_5 => ?_)
  obtain ⟨rfl, T, hLI, t0, t1, t2, hw⟩ := hv
  replace X : zX D B0 (zl (layL cA (hl3 q q_1 q_2 q_3 q_4) T) L) s.heap H locs := ⟨hw, hS_5⟩
  exact z_retv E X hQ (⟨rfl, (hl3 q q_1 q_2 q_3 q_4), T, rfl, hLI, t0, t1, t2, X.1⟩) dX1_init_46

def ca0 (q : Nat) (h : Nat → Nat) (qe qt qo qs qa : Nat) : Nat → Nat → Nat := fun k _ => match k with
  | 0 => q
  | 1 => h 0
  | 2 => h 3
  | 3 => h 4
  | 9 => h 5
  | 11 => h 6
  | 4 => qe
  | 5 => qt
  | 6 => qo
  | 7 => qs
  | 8 => qa
  | _ => 0
def cg0 (T : zS) : zG := fun k _ => match k with
  | 2 => T 3
  | 3 => T 4
  | 9 => T 5
  | 11 => T 6
  | _ => fun _ => 0
theorem CG_0 {T : zS} (hL : LI T 1) (t0 : T 0 0 = 0) (t2 : T 2 0 = 1) : CG zS0 (cg0 T) := by
  obtain ⟨-, -, -, l4, l5, l6⟩ := hL
  refine ⟨l4, fun r hr h1 d hd => ?_, fun d hd => ?_, trivial, fun t ht => ?_, fun h => absurd (show (0 : Int) = 1 from h) (by decide), fun i => (⟨by decide, by decide⟩ : (-5000 : Int) ≤ 0 ∧ (0 : Int) ≤ 5000)⟩
  · have := l5 r hr h1 d hd
    rw [t2, t0] at this
    exact this
  · have := l6 d hd
    rw [t0] at this
    exact this
  · have ht : (t : Int) < 0 := ht
    omega
theorem zj_lo {C M : zL} {k i : Nat} (h : k < 32) : zj C M k i = C k i := by
  unfold zj
  rw [show Nat.blt k 32 = true from Nat.ble_eq_true_of_le h]
  rfl
theorem zj_hi {C M : zL} {k i : Nat} (h : ¬ k < 32) : zj C M k i = M k i := by
  unfold zj
  rw [show Nat.blt k 32 = false by
    cases hb : Nat.blt k 32 with
    | false => rfl
    | true => exact absurd (Nat.le_of_ble_eq_true hb) h]
  rfl
set_option maxHeartbeats 4000000 in
set_option maxRecDepth 100000 in
theorem ci_in {D : va_G} {B0 : Nat} {L W : zL} {cA : Nat → ClassId} {q qe qt qo qs qa : Nat} {h : Nat → Nat} {T : zS} {H0 H : Heap} {locs : List Loc} (w0 : W 0 0 = some (q, .inr (5, [.ref (h 0), .ref qe, .ref qt, .ref qo, .ref qs, .ref qa, .int (i32 0), .int (i32 0), .int (i32 0), .int (i32 0), .int (i32 0)]))) (w1 : W 1 0 = some (h 0, .inr (1, lfs h T))) (w2 : W 2 0 = some (kI cA (h 3) 51 (T 3))) (w3 : W 3 0 = some (kI cA (h 4) 51 (T 4))) (w4 : W 4 0 = some (kQ (cA 2) qe 8 (fun _ => none))) (w5 : W 5 0 = some (kQ (cA 3) qt 8 (fun _ => none))) (w6 : W 6 0 = some (kQ (cA 4) qo 6 (fun _ => none))) (w7 : W 7 0 = some (kQ (cA 5) qs 6 (fun _ => none))) (w8 : W 8 0 = some (kI cA qa 64 (fun _ => 0))) (w9 : W 9 0 = some (kI cA (h 5) 1632 (T 5))) (w11 : W 11 0 = some (kZ cA (h 6) 32 (T 6))) (wM : ∀ k i : Nat, ¬ k < 32 → W k i = L k i) (t0 : T 0 0 = 0) (t1 : T 1 0 = 30) (t2 : T 2 0 = 1) (X : zX D B0 W H0 H locs) : zX D B0 (zj (layC cA (ca0 q h qe qt qo qs qa) (cg0 T) zS0) L) H0 H locs := by
  have n1 : ∀ (c : Int) (f : Nat → Nat), c = 0 → (fun j : Nat => opt ((j : Int) < c) (f j)) = fun _ => none := fun c f hc => funext (fun j => if_neg (by omega))
  have n2 : ∀ (c : Int) (f : Nat → Nat), c = -1 → (fun j : Nat => opt (0 ≤ c) (f j)) = fun _ => none := fun c f hc => funext (fun j => if_neg (by omega))
  refine X.less (fun k i y hy => ?_)
  by_cases hk : k < 32
  · rw [zj_lo hk] at hy
    by_cases hi : i = 0
    · subst hi
      by_cases k0 : k = 0
      · subst k0
        rw [w0]
        exact hy
      by_cases k1 : k = 1
      · subst k1
        rw [w1]
        simp only [lfs, t0, t1, t2]
        exact hy
      by_cases k2 : k = 2
      · subst k2
        rw [w2]
        exact hy
      by_cases k3 : k = 3
      · subst k3
        rw [w3]
        exact hy
      by_cases k4 : k = 4
      · subst k4
        rw [w4, ← n1 0 (ca0 q h qe qt qo qs qa 10) rfl]
        exact hy
      by_cases k5 : k = 5
      · subst k5
        rw [w5, ← n1 0 (ca0 q h qe qt qo qs qa 12) rfl]
        exact hy
      by_cases k6 : k = 6
      · subst k6
        rw [w6, ← n1 0 (ca0 q h qe qt qo qs qa 14) rfl]
        exact hy
      by_cases k7 : k = 7
      · subst k7
        rw [w7, ← n2 (-1) (ca0 q h qe qt qo qs qa 15) rfl]
        exact hy
      by_cases k8 : k = 8
      · subst k8
        rw [w8]
        exact hy
      by_cases k9 : k = 9
      · subst k9
        rw [w9]
        exact hy
      by_cases k11 : k = 11
      · subst k11
        rw [w11]
        exact hy
      exfalso
      unfold layC at hy
      split at hy
      all_goals first | exact absurd rfl k0 | exact absurd rfl k1 | exact absurd rfl k2 | exact absurd rfl k3 | exact absurd rfl k4 | exact absurd rfl k5 | exact absurd rfl k6 | exact absurd rfl k7 | exact absurd rfl k8 | exact absurd rfl k9 | exact absurd rfl k11 | skip
      all_goals first | cases hy | skip
      all_goals first | (have hy : (if ((0 : Nat) : Int) < 0 then some _ else none) = some y := hy; rw [if_neg (by omega)] at hy; cases hy) | (have hy : (if (0 : Nat) < 6 ∧ (0 : Int) ≤ -1 then some _ else none) = some y := hy; rw [if_neg (by omega)] at hy; cases hy)
    · exfalso
      unfold layC at hy
      split at hy
      all_goals first | (rw [if_neg hi] at hy; cases hy; done) | skip
      all_goals first | cases hy | skip
      all_goals first | (have hy : (if (i : Int) < 0 then some _ else none) = some y := hy; rw [if_neg (by omega)] at hy; cases hy) | (have hy : (if i < 6 ∧ (0 : Int) ≤ -1 then some _ else none) = some y := hy; rw [if_neg (by omega)] at hy; cases hy)
  · rw [zj_hi hk] at hy
    rw [wM k i hk]
    exact hy
abbrev rX5_init : Room := { frames := 3, cells := 10, slots := 1865, locals := 70 }
set_option maxHeartbeats 4000000 in
set_option maxRecDepth 100000 in
theorem X_init (l : Launch) (D : va_G) (cA : Nat → ClassId) (B0 : Nat) (L : zL) (q : Nat) : zM l yX5_init wsX5_init rX5_init [.ref q] D cA B0 (zW D B0 (zu (L) 0 0 (some (q, .inr (5, [.null, .null, .null, .null, .null, .null, .int (i32 0), .int (i32 0), .int (i32 0), .int (i32 0), .int (i32 0)]))))) (fun v H => v = none ∧ ∃ (a : Nat → Nat → Nat) (G : zG), a 0 0 = q ∧ CG zS0 G ∧ zW D B0 (zj (layC cA a G zS0) L) H) := by
  refine z_met (cc := cX5_init) (maxL := 1) (ret := none) (by decide) rfl (Nat.le_of_ble_eq_true rfl) ?_
  intro p e s m args below meth c ls Q hQ E hP hB hS hl
  have hl : lv_has ls 1 [(0, .ref q)] := hl
  have iX1 : ∀ w ∈ u_ws RX1 TX1 7, w ∈ wsX5_init := by decide +kernel
  have iX5 : ∀ w ∈ u_ws RX5 TX5 11, w ∈ wsX5_init := by decide +kernel
  have X : zX D B0 (zu (L) 0 0 (some (q, .inr (5, [.null, .null, .null, .null, .null, .null, .int (i32 0), .int (i32 0), .int (i32 0), .int (i32 0), .int (i32 0)])))) s.heap s.heap [] := ⟨hP, hS⟩
  refine lv_aload_n E.1 E.2.1 dX5_init_0 rfl (lv_at hl 0 rfl) ?_
  refine z_obj E (by decide +kernel) (by decide +kernel) (by decide +kernel) hl.1 dX5_init_1 (by decide) (Nat.le_of_ble_eq_true rfl) ?_
  refine lv_aload_n E.1 E.2.1 dX5_init_4 rfl (lv_at hl 0 rfl) ?_
  refine z_new (fs := [.int (i32 0), .int (i32 0), .int (i32 0), .null, .null, .null, .null]) E X 1 0 1 rfl iX1 tyX1 tyX1_ok (by decide +kernel) (by decide +kernel) (by decide +kernel) (fun j hj => by rcases (show j = 0 ∨ j = 1 ∨ j = 2 ∨ j = 3 ∨ j = 4 ∨ j = 5 ∨ j = 6 by omega) with rfl | rfl | rfl | rfl | rfl | rfl | rfl <;> first | rfl | exact congrArg Value.int i32_0) (by decide) (by decide) dX5_init_5 (fun q_1 H X => ?_)
  refine W.widen (k := 1) (n := 7) (by omega) (by omega) ?_
  have X : zX D B0 (zu (zu (L) 0 0 (some (q, .inr (5, [.null, .null, .null, .null, .null, .null, .int (i32 0), .int (i32 0), .int (i32 0), .int (i32 0), .int (i32 0)])))) 1 0 (some (q_1, .inr (1, [.int (i32 0), .int (i32 0), .int (i32 0), .null, .null, .null, .null])))) s.heap H _ := X
  refine lv_dup E.1 E.2.1 dX5_init_8 rfl ?_
  refine z_callI (As := []) (rest := [.ref q_1, .ref q]) (n := 0) E X (L_init l D cA B0 (zu (L) 0 0 (some (q, .inr (5, [.null, .null, .null, .null, .null, .null, .int (i32 0), .int (i32 0), .int (i32 0), .int (i32 0), .int (i32 0)])))) q_1) gX5_init_X1_init rfl (by decide +kernel) (by decide +kernel) (by decide +kernel) rfl (by decide +kernel) ⟨by decide, by decide⟩ rfl hl.1 rfl (Nat.le_of_ble_eq_true rfl) dX5_init_9 ⟨by decide, by decide⟩ X.1 5 1773 ⟨rfl, rfl⟩ (fun v H locs hv hS_2 => ?_)
  obtain ⟨rfl, h, T, h0, hLI, t0, t1, t2, hw⟩ := hv
  subst h0
  have X : zX D B0 (zl (layL cA h T) (zu (L) 0 0 (some (q, .inr (5, [.null, .null, .null, .null, .null, .null, .int (i32 0), .int (i32 0), .int (i32 0), .int (i32 0), .int (i32 0)]))))) s.heap H locs := ⟨hw, hS_2⟩
  refine z_putF E X rfl (show (zl (layL cA h T) (zu (L) 0 0 (some (q, .inr (5, [.null, .null, .null, .null, .null, .null, .int (i32 0), .int (i32 0), .int (i32 0), .int (i32 0), .int (i32 0)]))))) 0 0 = some (q, .inr (5, [.null, .null, .null, .null, .null, .null, .int (i32 0), .int (i32 0), .int (i32 0), .int (i32 0), .int (i32 0)])) from zu_self L 0 0 _) rfl iX5 tyX5 tyX5_ok nmX5 0 (by decide) (by decide +kernel) rfl rfl rfl rfl (Nat.le_of_ble_eq_true rfl) dX5_init_12 (fun H locs X => ?_)
  have X : zX D B0 (zu (zl (layL cA h T) (zu (L) 0 0 (some (q, .inr (5, [.null, .null, .null, .null, .null, .null, .int (i32 0), .int (i32 0), .int (i32 0), .int (i32 0), .int (i32 0)]))))) 0 0 (some (q, .inr (5, [.ref (h 0), .null, .null, .null, .null, .null, .int (i32 0), .int (i32 0), .int (i32 0), .int (i32 0), .int (i32 0)])))) s.heap H locs := X
  refine lv_aload_n E.1 E.2.1 dX5_init_15 rfl (lv_at hl 0 rfl) ?_
  refine z_bipush E dX5_init_16 (by decide +kernel) ?_
  refine z_anew (C := "EchoRow$Element") (N := 8) E X 4 0 2 rfl (by decide +kernel) E.2.2.2.2.2.1.2.2.1 rfl (by decide) (by decide) (by decide) dX5_init_18 (fun q_3 H X => ?_)
  refine W.widen (k := 6) (n := 1781) (by omega) (by omega) ?_
  have X : zX D B0 (zu (zu (zl (layL cA h T) (zu (L) 0 0 (some (q, .inr (5, [.null, .null, .null, .null, .null, .null, .int (i32 0), .int (i32 0), .int (i32 0), .int (i32 0), .int (i32 0)]))))) 0 0 (some (q, .inr (5, [.ref (h 0), .null, .null, .null, .null, .null, .int (i32 0), .int (i32 0), .int (i32 0), .int (i32 0), .int (i32 0)])))) 4 0 (some (kQ (cA 2) q_3 8 (fun _ => none)))) s.heap H _ := X
  refine z_putF E X rfl ((zu_ne (by omega)).trans (zu_self _ _ _ _)) rfl iX5 tyX5 tyX5_ok nmX5 1 (by decide) (by decide +kernel) rfl rfl rfl rfl (Nat.le_of_ble_eq_true rfl) dX5_init_21 (fun H locs X => ?_)
  have X : zX D B0 (zu (zu (zu (zl (layL cA h T) (zu (L) 0 0 (some (q, .inr (5, [.null, .null, .null, .null, .null, .null, .int (i32 0), .int (i32 0), .int (i32 0), .int (i32 0), .int (i32 0)]))))) 0 0 (some (q, .inr (5, [.ref (h 0), .null, .null, .null, .null, .null, .int (i32 0), .int (i32 0), .int (i32 0), .int (i32 0), .int (i32 0)])))) 4 0 (some (kQ (cA 2) q_3 8 (fun _ => none)))) 0 0 (some (q, .inr (5, [.ref (h 0), .ref q_3, .null, .null, .null, .null, .int (i32 0), .int (i32 0), .int (i32 0), .int (i32 0), .int (i32 0)])))) s.heap H locs := X
  refine lv_aload_n E.1 E.2.1 dX5_init_24 rfl (lv_at hl 0 rfl) ?_
  refine z_bipush E dX5_init_25 (by decide +kernel) ?_
  refine z_anew (C := "EchoRow$Target") (N := 8) E X 5 0 3 rfl (by decide +kernel) E.2.2.2.2.2.1.2.2.2.1 rfl (by decide) (by decide) (by decide) dX5_init_27 (fun q_4 H X => ?_)
  refine W.widen (k := 7) (n := 1789) (by omega) (by omega) ?_
  have X : zX D B0 (zu (zu (zu (zu (zl (layL cA h T) (zu (L) 0 0 (some (q, .inr (5, [.null, .null, .null, .null, .null, .null, .int (i32 0), .int (i32 0), .int (i32 0), .int (i32 0), .int (i32 0)]))))) 0 0 (some (q, .inr (5, [.ref (h 0), .null, .null, .null, .null, .null, .int (i32 0), .int (i32 0), .int (i32 0), .int (i32 0), .int (i32 0)])))) 4 0 (some (kQ (cA 2) q_3 8 (fun _ => none)))) 0 0 (some (q, .inr (5, [.ref (h 0), .ref q_3, .null, .null, .null, .null, .int (i32 0), .int (i32 0), .int (i32 0), .int (i32 0), .int (i32 0)])))) 5 0 (some (kQ (cA 3) q_4 8 (fun _ => none)))) s.heap H _ := X
  refine z_putF E X rfl ((zu_ne (by omega)).trans (zu_self _ _ _ _)) rfl iX5 tyX5 tyX5_ok nmX5 2 (by decide) (by decide +kernel) rfl rfl rfl rfl (Nat.le_of_ble_eq_true rfl) dX5_init_30 (fun H locs X => ?_)
  have X : zX D B0 (zu (zu (zu (zu (zu (zl (layL cA h T) (zu (L) 0 0 (some (q, .inr (5, [.null, .null, .null, .null, .null, .null, .int (i32 0), .int (i32 0), .int (i32 0), .int (i32 0), .int (i32 0)]))))) 0 0 (some (q, .inr (5, [.ref (h 0), .null, .null, .null, .null, .null, .int (i32 0), .int (i32 0), .int (i32 0), .int (i32 0), .int (i32 0)])))) 4 0 (some (kQ (cA 2) q_3 8 (fun _ => none)))) 0 0 (some (q, .inr (5, [.ref (h 0), .ref q_3, .null, .null, .null, .null, .int (i32 0), .int (i32 0), .int (i32 0), .int (i32 0), .int (i32 0)])))) 5 0 (some (kQ (cA 3) q_4 8 (fun _ => none)))) 0 0 (some (q, .inr (5, [.ref (h 0), .ref q_3, .ref q_4, .null, .null, .null, .int (i32 0), .int (i32 0), .int (i32 0), .int (i32 0), .int (i32 0)])))) s.heap H locs := X
  refine lv_aload_n E.1 E.2.1 dX5_init_33 rfl (lv_at hl 0 rfl) ?_
  refine z_bipush E dX5_init_34 (by decide +kernel) ?_
  refine z_anew (C := "EchoRow$Told") (N := 6) E X 6 0 4 rfl (by decide +kernel) E.2.2.2.2.2.1.2.2.2.2.1 rfl (by decide) (by decide) (by decide) dX5_init_36 (fun q_5 H X => ?_)
  refine W.widen (k := 8) (n := 1795) (by omega) (by omega) ?_
  have X : zX D B0 (zu (zu (zu (zu (zu (zu (zl (layL cA h T) (zu (L) 0 0 (some (q, .inr (5, [.null, .null, .null, .null, .null, .null, .int (i32 0), .int (i32 0), .int (i32 0), .int (i32 0), .int (i32 0)]))))) 0 0 (some (q, .inr (5, [.ref (h 0), .null, .null, .null, .null, .null, .int (i32 0), .int (i32 0), .int (i32 0), .int (i32 0), .int (i32 0)])))) 4 0 (some (kQ (cA 2) q_3 8 (fun _ => none)))) 0 0 (some (q, .inr (5, [.ref (h 0), .ref q_3, .null, .null, .null, .null, .int (i32 0), .int (i32 0), .int (i32 0), .int (i32 0), .int (i32 0)])))) 5 0 (some (kQ (cA 3) q_4 8 (fun _ => none)))) 0 0 (some (q, .inr (5, [.ref (h 0), .ref q_3, .ref q_4, .null, .null, .null, .int (i32 0), .int (i32 0), .int (i32 0), .int (i32 0), .int (i32 0)])))) 6 0 (some (kQ (cA 4) q_5 6 (fun _ => none)))) s.heap H _ := X
  refine z_putF E X rfl ((zu_ne (by omega)).trans (zu_self _ _ _ _)) rfl iX5 tyX5 tyX5_ok nmX5 3 (by decide) (by decide +kernel) rfl rfl rfl rfl (Nat.le_of_ble_eq_true rfl) dX5_init_39 (fun H locs X => ?_)
  have X : zX D B0 (zu (zu (zu (zu (zu (zu (zu (zl (layL cA h T) (zu (L) 0 0 (some (q, .inr (5, [.null, .null, .null, .null, .null, .null, .int (i32 0), .int (i32 0), .int (i32 0), .int (i32 0), .int (i32 0)]))))) 0 0 (some (q, .inr (5, [.ref (h 0), .null, .null, .null, .null, .null, .int (i32 0), .int (i32 0), .int (i32 0), .int (i32 0), .int (i32 0)])))) 4 0 (some (kQ (cA 2) q_3 8 (fun _ => none)))) 0 0 (some (q, .inr (5, [.ref (h 0), .ref q_3, .null, .null, .null, .null, .int (i32 0), .int (i32 0), .int (i32 0), .int (i32 0), .int (i32 0)])))) 5 0 (some (kQ (cA 3) q_4 8 (fun _ => none)))) 0 0 (some (q, .inr (5, [.ref (h 0), .ref q_3, .ref q_4, .null, .null, .null, .int (i32 0), .int (i32 0), .int (i32 0), .int (i32 0), .int (i32 0)])))) 6 0 (some (kQ (cA 4) q_5 6 (fun _ => none)))) 0 0 (some (q, .inr (5, [.ref (h 0), .ref q_3, .ref q_4, .ref q_5, .null, .null, .int (i32 0), .int (i32 0), .int (i32 0), .int (i32 0), .int (i32 0)])))) s.heap H locs := X
  refine lv_aload_n E.1 E.2.1 dX5_init_42 rfl (lv_at hl 0 rfl) ?_
  refine z_bipush E dX5_init_43 (by decide +kernel) ?_
  refine z_anew (C := "EchoRow$Sheet") (N := 6) E X 7 0 5 rfl (by decide +kernel) E.2.2.2.2.2.1.2.2.2.2.2 rfl (by decide) (by decide) (by decide) dX5_init_45 (fun q_6 H X => ?_)
  refine W.widen (k := 9) (n := 1801) (by omega) (by omega) ?_
  have X : zX D B0 (zu (zu (zu (zu (zu (zu (zu (zu (zl (layL cA h T) (zu (L) 0 0 (some (q, .inr (5, [.null, .null, .null, .null, .null, .null, .int (i32 0), .int (i32 0), .int (i32 0), .int (i32 0), .int (i32 0)]))))) 0 0 (some (q, .inr (5, [.ref (h 0), .null, .null, .null, .null, .null, .int (i32 0), .int (i32 0), .int (i32 0), .int (i32 0), .int (i32 0)])))) 4 0 (some (kQ (cA 2) q_3 8 (fun _ => none)))) 0 0 (some (q, .inr (5, [.ref (h 0), .ref q_3, .null, .null, .null, .null, .int (i32 0), .int (i32 0), .int (i32 0), .int (i32 0), .int (i32 0)])))) 5 0 (some (kQ (cA 3) q_4 8 (fun _ => none)))) 0 0 (some (q, .inr (5, [.ref (h 0), .ref q_3, .ref q_4, .null, .null, .null, .int (i32 0), .int (i32 0), .int (i32 0), .int (i32 0), .int (i32 0)])))) 6 0 (some (kQ (cA 4) q_5 6 (fun _ => none)))) 0 0 (some (q, .inr (5, [.ref (h 0), .ref q_3, .ref q_4, .ref q_5, .null, .null, .int (i32 0), .int (i32 0), .int (i32 0), .int (i32 0), .int (i32 0)])))) 7 0 (some (kQ (cA 5) q_6 6 (fun _ => none)))) s.heap H _ := X
  refine z_putF E X rfl ((zu_ne (by omega)).trans (zu_self _ _ _ _)) rfl iX5 tyX5 tyX5_ok nmX5 4 (by decide) (by decide +kernel) rfl rfl rfl rfl (Nat.le_of_ble_eq_true rfl) dX5_init_48 (fun H locs X => ?_)
  have X : zX D B0 (zu (zu (zu (zu (zu (zu (zu (zu (zu (zl (layL cA h T) (zu (L) 0 0 (some (q, .inr (5, [.null, .null, .null, .null, .null, .null, .int (i32 0), .int (i32 0), .int (i32 0), .int (i32 0), .int (i32 0)]))))) 0 0 (some (q, .inr (5, [.ref (h 0), .null, .null, .null, .null, .null, .int (i32 0), .int (i32 0), .int (i32 0), .int (i32 0), .int (i32 0)])))) 4 0 (some (kQ (cA 2) q_3 8 (fun _ => none)))) 0 0 (some (q, .inr (5, [.ref (h 0), .ref q_3, .null, .null, .null, .null, .int (i32 0), .int (i32 0), .int (i32 0), .int (i32 0), .int (i32 0)])))) 5 0 (some (kQ (cA 3) q_4 8 (fun _ => none)))) 0 0 (some (q, .inr (5, [.ref (h 0), .ref q_3, .ref q_4, .null, .null, .null, .int (i32 0), .int (i32 0), .int (i32 0), .int (i32 0), .int (i32 0)])))) 6 0 (some (kQ (cA 4) q_5 6 (fun _ => none)))) 0 0 (some (q, .inr (5, [.ref (h 0), .ref q_3, .ref q_4, .ref q_5, .null, .null, .int (i32 0), .int (i32 0), .int (i32 0), .int (i32 0), .int (i32 0)])))) 7 0 (some (kQ (cA 5) q_6 6 (fun _ => none)))) 0 0 (some (q, .inr (5, [.ref (h 0), .ref q_3, .ref q_4, .ref q_5, .ref q_6, .null, .int (i32 0), .int (i32 0), .int (i32 0), .int (i32 0), .int (i32 0)])))) s.heap H locs := X
  refine lv_aload_n E.1 E.2.1 dX5_init_51 rfl (lv_at hl 0 rfl) ?_
  refine z_bipush E dX5_init_52 (by decide +kernel) ?_
  refine z_newi (N := 64) E X 8 0 (by decide +kernel) rfl (by decide) (by decide) (by decide) dX5_init_54 (fun q_7 H X => ?_)
  refine W.widen (k := 10) (n := 1865) (by omega) (by omega) ?_
  have X : zX D B0 (zu (zu (zu (zu (zu (zu (zu (zu (zu (zu (zl (layL cA h T) (zu (L) 0 0 (some (q, .inr (5, [.null, .null, .null, .null, .null, .null, .int (i32 0), .int (i32 0), .int (i32 0), .int (i32 0), .int (i32 0)]))))) 0 0 (some (q, .inr (5, [.ref (h 0), .null, .null, .null, .null, .null, .int (i32 0), .int (i32 0), .int (i32 0), .int (i32 0), .int (i32 0)])))) 4 0 (some (kQ (cA 2) q_3 8 (fun _ => none)))) 0 0 (some (q, .inr (5, [.ref (h 0), .ref q_3, .null, .null, .null, .null, .int (i32 0), .int (i32 0), .int (i32 0), .int (i32 0), .int (i32 0)])))) 5 0 (some (kQ (cA 3) q_4 8 (fun _ => none)))) 0 0 (some (q, .inr (5, [.ref (h 0), .ref q_3, .ref q_4, .null, .null, .null, .int (i32 0), .int (i32 0), .int (i32 0), .int (i32 0), .int (i32 0)])))) 6 0 (some (kQ (cA 4) q_5 6 (fun _ => none)))) 0 0 (some (q, .inr (5, [.ref (h 0), .ref q_3, .ref q_4, .ref q_5, .null, .null, .int (i32 0), .int (i32 0), .int (i32 0), .int (i32 0), .int (i32 0)])))) 7 0 (some (kQ (cA 5) q_6 6 (fun _ => none)))) 0 0 (some (q, .inr (5, [.ref (h 0), .ref q_3, .ref q_4, .ref q_5, .ref q_6, .null, .int (i32 0), .int (i32 0), .int (i32 0), .int (i32 0), .int (i32 0)])))) 8 0 (some (kI cA q_7 64 (fun _ => 0)))) s.heap H _ := X
  refine z_putF E X rfl ((zu_ne (by omega)).trans (zu_self _ _ _ _)) rfl iX5 tyX5 tyX5_ok nmX5 5 (by decide) (by decide +kernel) rfl rfl rfl rfl (Nat.le_of_ble_eq_true rfl) dX5_init_56 (fun H locs X => ?_)
  have X : zX D B0 (zu (zu (zu (zu (zu (zu (zu (zu (zu (zu (zu (zl (layL cA h T) (zu (L) 0 0 (some (q, .inr (5, [.null, .null, .null, .null, .null, .null, .int (i32 0), .int (i32 0), .int (i32 0), .int (i32 0), .int (i32 0)]))))) 0 0 (some (q, .inr (5, [.ref (h 0), .null, .null, .null, .null, .null, .int (i32 0), .int (i32 0), .int (i32 0), .int (i32 0), .int (i32 0)])))) 4 0 (some (kQ (cA 2) q_3 8 (fun _ => none)))) 0 0 (some (q, .inr (5, [.ref (h 0), .ref q_3, .null, .null, .null, .null, .int (i32 0), .int (i32 0), .int (i32 0), .int (i32 0), .int (i32 0)])))) 5 0 (some (kQ (cA 3) q_4 8 (fun _ => none)))) 0 0 (some (q, .inr (5, [.ref (h 0), .ref q_3, .ref q_4, .null, .null, .null, .int (i32 0), .int (i32 0), .int (i32 0), .int (i32 0), .int (i32 0)])))) 6 0 (some (kQ (cA 4) q_5 6 (fun _ => none)))) 0 0 (some (q, .inr (5, [.ref (h 0), .ref q_3, .ref q_4, .ref q_5, .null, .null, .int (i32 0), .int (i32 0), .int (i32 0), .int (i32 0), .int (i32 0)])))) 7 0 (some (kQ (cA 5) q_6 6 (fun _ => none)))) 0 0 (some (q, .inr (5, [.ref (h 0), .ref q_3, .ref q_4, .ref q_5, .ref q_6, .null, .int (i32 0), .int (i32 0), .int (i32 0), .int (i32 0), .int (i32 0)])))) 8 0 (some (kI cA q_7 64 (fun _ => 0)))) 0 0 (some (q, .inr (5, [.ref (h 0), .ref q_3, .ref q_4, .ref q_5, .ref q_6, .ref q_7, .int (i32 0), .int (i32 0), .int (i32 0), .int (i32 0), .int (i32 0)])))) s.heap H locs := X
  have X := ci_in (q := q) (h := h) (T := T) (L := L) (W := zu (zu (zu (zu (zu (zu (zu (zu (zu (zu (zu (zl (layL cA h T) (zu (L) 0 0 (some (q, .inr (5, [.null, .null, .null, .null, .null, .null, .int (i32 0), .int (i32 0), .int (i32 0), .int (i32 0), .int (i32 0)]))))) 0 0 (some (q, .inr (5, [.ref (h 0), .null, .null, .null, .null, .null, .int (i32 0), .int (i32 0), .int (i32 0), .int (i32 0), .int (i32 0)])))) 4 0 (some (kQ (cA 2) q_3 8 (fun _ => none)))) 0 0 (some (q, .inr (5, [.ref (h 0), .ref q_3, .null, .null, .null, .null, .int (i32 0), .int (i32 0), .int (i32 0), .int (i32 0), .int (i32 0)])))) 5 0 (some (kQ (cA 3) q_4 8 (fun _ => none)))) 0 0 (some (q, .inr (5, [.ref (h 0), .ref q_3, .ref q_4, .null, .null, .null, .int (i32 0), .int (i32 0), .int (i32 0), .int (i32 0), .int (i32 0)])))) 6 0 (some (kQ (cA 4) q_5 6 (fun _ => none)))) 0 0 (some (q, .inr (5, [.ref (h 0), .ref q_3, .ref q_4, .ref q_5, .null, .null, .int (i32 0), .int (i32 0), .int (i32 0), .int (i32 0), .int (i32 0)])))) 7 0 (some (kQ (cA 5) q_6 6 (fun _ => none)))) 0 0 (some (q, .inr (5, [.ref (h 0), .ref q_3, .ref q_4, .ref q_5, .ref q_6, .null, .int (i32 0), .int (i32 0), .int (i32 0), .int (i32 0), .int (i32 0)])))) 8 0 (some (kI cA q_7 64 (fun _ => 0)))) 0 0 (some (q, .inr (5, [.ref (h 0), .ref q_3, .ref q_4, .ref q_5, .ref q_6, .ref q_7, .int (i32 0), .int (i32 0), .int (i32 0), .int (i32 0), .int (i32 0)])))) (zu_self _ _ _ _) ((zu_ne (by omega)).trans ((zu_ne (by omega)).trans ((zu_ne (by omega)).trans ((zu_ne (by omega)).trans ((zu_ne (by omega)).trans ((zu_ne (by omega)).trans ((zu_ne (by omega)).trans ((zu_ne (by omega)).trans ((zu_ne (by omega)).trans ((zu_ne (by omega)).trans ((zu_ne (by omega)).trans (rfl)))))))))))) ((zu_ne (by omega)).trans ((zu_ne (by omega)).trans ((zu_ne (by omega)).trans ((zu_ne (by omega)).trans ((zu_ne (by omega)).trans ((zu_ne (by omega)).trans ((zu_ne (by omega)).trans ((zu_ne (by omega)).trans ((zu_ne (by omega)).trans ((zu_ne (by omega)).trans ((zu_ne (by omega)).trans (rfl)))))))))))) ((zu_ne (by omega)).trans ((zu_ne (by omega)).trans ((zu_ne (by omega)).trans ((zu_ne (by omega)).trans ((zu_ne (by omega)).trans ((zu_ne (by omega)).trans ((zu_ne (by omega)).trans ((zu_ne (by omega)).trans ((zu_ne (by omega)).trans ((zu_ne (by omega)).trans ((zu_ne (by omega)).trans (rfl)))))))))))) ((zu_ne (by omega)).trans ((zu_ne (by omega)).trans ((zu_ne (by omega)).trans ((zu_ne (by omega)).trans ((zu_ne (by omega)).trans ((zu_ne (by omega)).trans ((zu_ne (by omega)).trans ((zu_ne (by omega)).trans ((zu_ne (by omega)).trans (zu_self _ _ _ _)))))))))) ((zu_ne (by omega)).trans ((zu_ne (by omega)).trans ((zu_ne (by omega)).trans ((zu_ne (by omega)).trans ((zu_ne (by omega)).trans ((zu_ne (by omega)).trans ((zu_ne (by omega)).trans (zu_self _ _ _ _)))))))) ((zu_ne (by omega)).trans ((zu_ne (by omega)).trans ((zu_ne (by omega)).trans ((zu_ne (by omega)).trans ((zu_ne (by omega)).trans (zu_self _ _ _ _)))))) ((zu_ne (by omega)).trans ((zu_ne (by omega)).trans ((zu_ne (by omega)).trans (zu_self _ _ _ _)))) ((zu_ne (by omega)).trans (zu_self _ _ _ _)) ((zu_ne (by omega)).trans ((zu_ne (by omega)).trans ((zu_ne (by omega)).trans ((zu_ne (by omega)).trans ((zu_ne (by omega)).trans ((zu_ne (by omega)).trans ((zu_ne (by omega)).trans ((zu_ne (by omega)).trans ((zu_ne (by omega)).trans ((zu_ne (by omega)).trans ((zu_ne (by omega)).trans (rfl)))))))))))) ((zu_ne (by omega)).trans ((zu_ne (by omega)).trans ((zu_ne (by omega)).trans ((zu_ne (by omega)).trans ((zu_ne (by omega)).trans ((zu_ne (by omega)).trans ((zu_ne (by omega)).trans ((zu_ne (by omega)).trans ((zu_ne (by omega)).trans ((zu_ne (by omega)).trans ((zu_ne (by omega)).trans (rfl)))))))))))) (fun k i hk => (zu_ne (by omega)).trans ((zu_ne (by omega)).trans ((zu_ne (by omega)).trans ((zu_ne (by omega)).trans ((zu_ne (by omega)).trans ((zu_ne (by omega)).trans ((zu_ne (by omega)).trans ((zu_ne (by omega)).trans ((zu_ne (by omega)).trans ((zu_ne (by omega)).trans ((zu_ne (by omega)).trans ((zl_no (by omega) (by omega) (by omega) (by omega) (by omega)).trans (zu_ne (by omega)))))))))))))) t0 t1 t2 X
  exact z_retv E X hQ (⟨rfl, ca0 q h q_3 q_4 q_5 q_6 q_7, cg0 T, rfl, CG_0 hLI t0 t2, X.1⟩) dX5_init_59

theorem mi_push {D : va_G} {B0 : Nat} {L : zL} {k : Nat} {c r : Option (Nat × va_E)} {H0 H : Heap} {locs : List Loc} (hk : k ≠ 32) (X : zX D B0 (zu (zu L 32 0 c) k 0 r) H0 H locs) : ∃ L1 : zL, L1 k 0 = r ∧ (∀ k2 i : Nat, k2 ≠ k → L1 k2 i = L k2 i) ∧ zX D B0 (zu L1 32 0 c) H0 H locs := by
  refine ⟨zu L k 0 r, zu_self _ _ _ _, fun k2 i h => zu_ne (fun e => h e.1), X.to (fun k2 i => ?_)⟩
  by_cases h1 : k2 = 32 ∧ i = 0
  · obtain ⟨rfl, rfl⟩ := h1
    rw [zu_self, zu_ne (by omega), zu_self]
  · rw [zu_ne h1]
    by_cases h2 : k2 = k ∧ i = 0
    · obtain ⟨rfl, rfl⟩ := h2
      rw [zu_self, zu_self]
    · rw [zu_ne h2, zu_ne h2, zu_ne h1]
set_option maxRecDepth 100000 in
theorem mi_in {D : va_G} {B0 : Nat} {L W : zL} {cA : Nat → ClassId} {am : Nat → Nat} {g : Nat → Int} {H0 H : Heap} {locs : List Loc} (w0 : W 32 0 = some (am 0, .inr (6, mfs am zS0 zU0))) (w6 : W 38 0 = some (kI cA (am 6) 8 (fun _ => 0))) (w7 : W 39 0 = some (kZ cA (am 7) 8 (fun _ => 0))) (w9 : W 41 0 = some (kI cA (am 9) 8 (fun _ => 0))) (w10 : W 42 0 = some (kI cA (am 10) 8 (fun _ => 0))) (w11 : W 43 0 = some (kI cA (am 11) 8 (fun _ => 0))) (w12 : W 44 0 = some (kI cA (am 12) 8 (fun _ => 0))) (w13 : W 45 0 = some (kI cA (am 13) 8 (fun _ => 0))) (w14 : W 46 0 = some (kI cA (am 14) 20808 (fun _ => 0))) (w15 : W 47 0 = some (kI cA (am 15) 20808 (fun _ => 0))) (w16 : W 48 0 = some (kZ cA (am 16) 408 (fun _ => 0))) (w18 : W 50 0 = some (kI cA (am 18) 8 (fun _ => 0))) (w20 : W 52 0 = some (kI cA (am 20) 6 (fun _ => 0))) (w21 : W 53 0 = some (kI cA (am 21) 6 (fun _ => 0))) (w22 : W 54 0 = some (kI cA (am 22) 6 (fun _ => 0))) (w23 : W 55 0 = some (kI cA (am 23) 6 g)) (w24 : W 56 0 = some (kI cA (am 24) 6 (fun _ => 0))) (w25 : W 57 0 = some (kI cA (am 25) 384 (fun _ => 0))) (w26 : W 58 0 = some (kI cA (am 26) 64 (fun _ => 0))) (hg : ∀ j : Nat, j < 6 → g j = -1) (wC : ∀ k i : Nat, k < 32 → W k i = L k i) (X : zX D B0 W H0 H locs) : zX D B0 (zj L (layM cA am zS0 zU0)) H0 H locs := by
  refine X.via (fun k i y hy => ?_)
  by_cases hk : k < 32
  · rw [zj_lo hk] at hy
    exact ⟨y, by rw [wC k i hk]; exact hy, rfl, fun h => h⟩
  · rw [zj_hi hk] at hy
    unfold layM at hy
    by_cases hi : i = 0
    · subst hi
      rw [if_pos rfl] at hy
      by_cases k23 : k = 55
      · subst k23
        have hy : some (kI cA (am 23) 6 (fun _ => -1)) = some y := hy
        cases hy
        exact ⟨_, w23, rfl, fun hv => zI_at hg hv⟩
      refine ⟨y, ?_, rfl, fun h => h⟩
      split at hy
      · rw [w0]
        exact hy
      · rw [w6]
        exact hy
      · rw [w7]
        exact hy
      · rw [w9]
        exact hy
      · rw [w10]
        exact hy
      · rw [w11]
        exact hy
      · rw [w12]
        exact hy
      · rw [w13]
        exact hy
      · rw [w14]
        exact hy
      · rw [w15]
        exact hy
      · rw [w16]
        exact hy
      · rw [w18]
        exact hy
      · rw [w20]
        exact hy
      · rw [w21]
        exact hy
      · rw [w22]
        exact hy
      · exact absurd rfl k23
      · rw [w24]
        exact hy
      · rw [w25]
        exact hy
      · rw [w26]
        exact hy
      · cases hy
    · rw [if_neg hi] at hy
      cases hy
abbrev rX6_init : Room := { frames := 1, cells := 18, slots := 42566, locals := 24 }
set_option maxHeartbeats 4000000 in
set_option maxRecDepth 100000 in
theorem M_init (l : Launch) (D : va_G) (cA : Nat → ClassId) (B0 : Nat) (L : zL) (q : Nat) : zM l yX6_init wsX6_init rX6_init [.ref q] D cA B0 (zW D B0 (zu L 32 0 (some (q, .inr (6, [.int (i32 0), .int (i32 0), .int (i32 0), .int (i32 0), .int (i32 0), .int (i32 0), .null, .null, .int (i32 0), .null, .null, .null, .null, .null, .null, .null, .null, .int (i32 0), .null, .int (i32 0), .null, .null, .null, .null, .null, .null, .null, .int (i32 0)]))))) (fun v H => v = none ∧ ∃ (am : Nat → Nat) (U : zS), am 0 = q ∧ MC zS0 U ∧ zW D B0 (zj L (layM cA am zS0 U)) H) := by
  refine z_met (cc := cX6_init) (maxL := 1) (ret := none) (by decide) rfl (Nat.le_of_ble_eq_true rfl) ?_
  intro p e s m args below meth c ls Q hQ E hP hB hS hl
  have hl : lv_has ls 1 [(0, .ref q)] := hl
  have iX6 : ∀ w ∈ u_ws RX6 TX6 28, w ∈ wsX6_init := by decide +kernel
  have X : zX D B0 (zu L 32 0 (some (q, .inr (6, [.int (i32 0), .int (i32 0), .int (i32 0), .int (i32 0), .int (i32 0), .int (i32 0), .null, .null, .int (i32 0), .null, .null, .null, .null, .null, .null, .null, .null, .int (i32 0), .null, .int (i32 0), .null, .null, .null, .null, .null, .null, .null, .int (i32 0)])))) s.heap s.heap [] := ⟨hP, hS⟩
  refine lv_aload_n E.1 E.2.1 dX6_init_0 rfl (lv_at hl 0 rfl) ?_
  refine z_obj E (by decide +kernel) (by decide +kernel) (by decide +kernel) hl.1 dX6_init_1 (by decide) (Nat.le_of_ble_eq_true rfl) ?_
  refine lv_aload_n E.1 E.2.1 dX6_init_4 rfl (lv_at hl 0 rfl) ?_
  refine z_bipush E dX6_init_5 (by decide +kernel) ?_
  refine z_put E X (zu_self L 32 0 _) rfl iX6 tyX6 tyX6_ok nmX6 2 (by decide) (by decide +kernel) rfl rfl rfl (Nat.le_of_ble_eq_true rfl) dX6_init_7 (fun H locs X => ?_)
  rw [zu_zu] at X
  have X : zX D B0 (zu L 32 0 (some (q, .inr (6, [.int (i32 0), .int (i32 0), .int (i32 30), .int (i32 0), .int (i32 0), .int (i32 0), .null, .null, .int (i32 0), .null, .null, .null, .null, .null, .null, .null, .null, .int (i32 0), .null, .int (i32 0), .null, .null, .null, .null, .null, .null, .null, .int (i32 0)])))) s.heap H _ := X
  refine lv_aload_n E.1 E.2.1 dX6_init_10 rfl (lv_at hl 0 rfl) ?_
  refine z_iconst E dX6_init_11 ?_
  refine z_put E X (zu_self L 32 0 _) rfl iX6 tyX6 tyX6_ok nmX6 3 (by decide) (by decide +kernel) rfl rfl rfl (Nat.le_of_ble_eq_true rfl) dX6_init_12 (fun H locs X => ?_)
  rw [zu_zu] at X
  have X : zX D B0 (zu L 32 0 (some (q, .inr (6, [.int (i32 0), .int (i32 0), .int (i32 30), .int (i32 1), .int (i32 0), .int (i32 0), .null, .null, .int (i32 0), .null, .null, .null, .null, .null, .null, .null, .null, .int (i32 0), .null, .int (i32 0), .null, .null, .null, .null, .null, .null, .null, .int (i32 0)])))) s.heap H _ := X
  refine lv_aload_n E.1 E.2.1 dX6_init_15 rfl (lv_at hl 0 rfl) ?_
  refine z_iconst E dX6_init_16 ?_
  refine z_put E X (zu_self L 32 0 _) rfl iX6 tyX6 tyX6_ok nmX6 4 (by decide) (by decide +kernel) rfl rfl rfl (Nat.le_of_ble_eq_true rfl) dX6_init_17 (fun H locs X => ?_)
  rw [zu_zu] at X
  have X : zX D B0 (zu L 32 0 (some (q, .inr (6, [.int (i32 0), .int (i32 0), .int (i32 30), .int (i32 1), .int (i32 1), .int (i32 0), .null, .null, .int (i32 0), .null, .null, .null, .null, .null, .null, .null, .null, .int (i32 0), .null, .int (i32 0), .null, .null, .null, .null, .null, .null, .null, .int (i32 0)])))) s.heap H _ := X
  refine lv_aload_n E.1 E.2.1 dX6_init_20 rfl (lv_at hl 0 rfl) ?_
  refine z_bipush E dX6_init_21 (by decide +kernel) ?_
  refine z_newi (N := 8) E X 38 0 (by decide +kernel) rfl (by decide) (by decide) (by decide) dX6_init_23 (fun q_1 H X => ?_)
  obtain ⟨L_2, hL_2, ohL_2, X⟩ := mi_push (by decide) X
  refine W.widen (k := 1) (n := 8) (by omega) (by omega) ?_
  refine z_putF E X rfl (zu_self L_2 32 0 _) rfl iX6 tyX6 tyX6_ok nmX6 6 (by decide) (by decide +kernel) rfl rfl rfl rfl (Nat.le_of_ble_eq_true rfl) dX6_init_25 (fun H locs X => ?_)
  rw [zu_zu] at X
  have X : zX D B0 (zu L_2 32 0 (some (q, .inr (6, [.int (i32 0), .int (i32 0), .int (i32 30), .int (i32 1), .int (i32 1), .int (i32 0), .ref q_1, .null, .int (i32 0), .null, .null, .null, .null, .null, .null, .null, .null, .int (i32 0), .null, .int (i32 0), .null, .null, .null, .null, .null, .null, .null, .int (i32 0)])))) s.heap H _ := X
  refine lv_aload_n E.1 E.2.1 dX6_init_28 rfl (lv_at hl 0 rfl) ?_
  refine z_bipush E dX6_init_29 (by decide +kernel) ?_
  refine z_newz (N := 8) E X 39 0 (by decide +kernel) rfl (by decide) (by decide) (by decide) dX6_init_31 (fun q_3 H X => ?_)
  obtain ⟨L_4, hL_4, ohL_4, X⟩ := mi_push (by decide) X
  refine W.widen (k := 2) (n := 16) (by omega) (by omega) ?_
  refine z_putF E X rfl (zu_self L_4 32 0 _) rfl iX6 tyX6 tyX6_ok nmX6 7 (by decide) (by decide +kernel) rfl rfl rfl rfl (Nat.le_of_ble_eq_true rfl) dX6_init_33 (fun H locs X => ?_)
  rw [zu_zu] at X
  have X : zX D B0 (zu L_4 32 0 (some (q, .inr (6, [.int (i32 0), .int (i32 0), .int (i32 30), .int (i32 1), .int (i32 1), .int (i32 0), .ref q_1, .ref q_3, .int (i32 0), .null, .null, .null, .null, .null, .null, .null, .null, .int (i32 0), .null, .int (i32 0), .null, .null, .null, .null, .null, .null, .null, .int (i32 0)])))) s.heap H _ := X
  refine lv_aload_n E.1 E.2.1 dX6_init_36 rfl (lv_at hl 0 rfl) ?_
  refine z_bipush E dX6_init_37 (by decide +kernel) ?_
  refine z_newi (N := 8) E X 41 0 (by decide +kernel) rfl (by decide) (by decide) (by decide) dX6_init_39 (fun q_5 H X => ?_)
  obtain ⟨L_6, hL_6, ohL_6, X⟩ := mi_push (by decide) X
  refine W.widen (k := 3) (n := 24) (by omega) (by omega) ?_
  refine z_putF E X rfl (zu_self L_6 32 0 _) rfl iX6 tyX6 tyX6_ok nmX6 9 (by decide) (by decide +kernel) rfl rfl rfl rfl (Nat.le_of_ble_eq_true rfl) dX6_init_41 (fun H locs X => ?_)
  rw [zu_zu] at X
  have X : zX D B0 (zu L_6 32 0 (some (q, .inr (6, [.int (i32 0), .int (i32 0), .int (i32 30), .int (i32 1), .int (i32 1), .int (i32 0), .ref q_1, .ref q_3, .int (i32 0), .ref q_5, .null, .null, .null, .null, .null, .null, .null, .int (i32 0), .null, .int (i32 0), .null, .null, .null, .null, .null, .null, .null, .int (i32 0)])))) s.heap H _ := X
  refine lv_aload_n E.1 E.2.1 dX6_init_44 rfl (lv_at hl 0 rfl) ?_
  refine z_bipush E dX6_init_45 (by decide +kernel) ?_
  refine z_newi (N := 8) E X 42 0 (by decide +kernel) rfl (by decide) (by decide) (by decide) dX6_init_47 (fun q_7 H X => ?_)
  obtain ⟨L_8, hL_8, ohL_8, X⟩ := mi_push (by decide) X
  refine W.widen (k := 4) (n := 32) (by omega) (by omega) ?_
  refine z_putF E X rfl (zu_self L_8 32 0 _) rfl iX6 tyX6 tyX6_ok nmX6 10 (by decide) (by decide +kernel) rfl rfl rfl rfl (Nat.le_of_ble_eq_true rfl) dX6_init_49 (fun H locs X => ?_)
  rw [zu_zu] at X
  have X : zX D B0 (zu L_8 32 0 (some (q, .inr (6, [.int (i32 0), .int (i32 0), .int (i32 30), .int (i32 1), .int (i32 1), .int (i32 0), .ref q_1, .ref q_3, .int (i32 0), .ref q_5, .ref q_7, .null, .null, .null, .null, .null, .null, .int (i32 0), .null, .int (i32 0), .null, .null, .null, .null, .null, .null, .null, .int (i32 0)])))) s.heap H _ := X
  refine lv_aload_n E.1 E.2.1 dX6_init_52 rfl (lv_at hl 0 rfl) ?_
  refine z_bipush E dX6_init_53 (by decide +kernel) ?_
  refine z_newi (N := 8) E X 43 0 (by decide +kernel) rfl (by decide) (by decide) (by decide) dX6_init_55 (fun q_9 H X => ?_)
  obtain ⟨L_10, hL_10, ohL_10, X⟩ := mi_push (by decide) X
  refine W.widen (k := 5) (n := 40) (by omega) (by omega) ?_
  refine z_putF E X rfl (zu_self L_10 32 0 _) rfl iX6 tyX6 tyX6_ok nmX6 11 (by decide) (by decide +kernel) rfl rfl rfl rfl (Nat.le_of_ble_eq_true rfl) dX6_init_57 (fun H locs X => ?_)
  rw [zu_zu] at X
  have X : zX D B0 (zu L_10 32 0 (some (q, .inr (6, [.int (i32 0), .int (i32 0), .int (i32 30), .int (i32 1), .int (i32 1), .int (i32 0), .ref q_1, .ref q_3, .int (i32 0), .ref q_5, .ref q_7, .ref q_9, .null, .null, .null, .null, .null, .int (i32 0), .null, .int (i32 0), .null, .null, .null, .null, .null, .null, .null, .int (i32 0)])))) s.heap H _ := X
  refine lv_aload_n E.1 E.2.1 dX6_init_60 rfl (lv_at hl 0 rfl) ?_
  refine z_bipush E dX6_init_61 (by decide +kernel) ?_
  refine z_newi (N := 8) E X 44 0 (by decide +kernel) rfl (by decide) (by decide) (by decide) dX6_init_63 (fun q_11 H X => ?_)
  obtain ⟨L_12, hL_12, ohL_12, X⟩ := mi_push (by decide) X
  refine W.widen (k := 6) (n := 48) (by omega) (by omega) ?_
  refine z_putF E X rfl (zu_self L_12 32 0 _) rfl iX6 tyX6 tyX6_ok nmX6 12 (by decide) (by decide +kernel) rfl rfl rfl rfl (Nat.le_of_ble_eq_true rfl) dX6_init_65 (fun H locs X => ?_)
  rw [zu_zu] at X
  have X : zX D B0 (zu L_12 32 0 (some (q, .inr (6, [.int (i32 0), .int (i32 0), .int (i32 30), .int (i32 1), .int (i32 1), .int (i32 0), .ref q_1, .ref q_3, .int (i32 0), .ref q_5, .ref q_7, .ref q_9, .ref q_11, .null, .null, .null, .null, .int (i32 0), .null, .int (i32 0), .null, .null, .null, .null, .null, .null, .null, .int (i32 0)])))) s.heap H _ := X
  refine lv_aload_n E.1 E.2.1 dX6_init_68 rfl (lv_at hl 0 rfl) ?_
  refine z_bipush E dX6_init_69 (by decide +kernel) ?_
  refine z_newi (N := 8) E X 45 0 (by decide +kernel) rfl (by decide) (by decide) (by decide) dX6_init_71 (fun q_13 H X => ?_)
  obtain ⟨L_14, hL_14, ohL_14, X⟩ := mi_push (by decide) X
  refine W.widen (k := 7) (n := 56) (by omega) (by omega) ?_
  refine z_putF E X rfl (zu_self L_14 32 0 _) rfl iX6 tyX6 tyX6_ok nmX6 13 (by decide) (by decide +kernel) rfl rfl rfl rfl (Nat.le_of_ble_eq_true rfl) dX6_init_73 (fun H locs X => ?_)
  rw [zu_zu] at X
  have X : zX D B0 (zu L_14 32 0 (some (q, .inr (6, [.int (i32 0), .int (i32 0), .int (i32 30), .int (i32 1), .int (i32 1), .int (i32 0), .ref q_1, .ref q_3, .int (i32 0), .ref q_5, .ref q_7, .ref q_9, .ref q_11, .ref q_13, .null, .null, .null, .int (i32 0), .null, .int (i32 0), .null, .null, .null, .null, .null, .null, .null, .int (i32 0)])))) s.heap H _ := X
  refine lv_aload_n E.1 E.2.1 dX6_init_76 rfl (lv_at hl 0 rfl) ?_
  refine z_sipush E dX6_init_77 (by decide +kernel) ?_
  refine z_newi (N := 20808) E X 46 0 (by decide +kernel) rfl (by decide) (by decide) (by decide) dX6_init_80 (fun q_15 H X => ?_)
  obtain ⟨L_16, hL_16, ohL_16, X⟩ := mi_push (by decide) X
  refine W.widen (k := 8) (n := 20864) (by omega) (by omega) ?_
  refine z_putF E X rfl (zu_self L_16 32 0 _) rfl iX6 tyX6 tyX6_ok nmX6 14 (by decide) (by decide +kernel) rfl rfl rfl rfl (Nat.le_of_ble_eq_true rfl) dX6_init_82 (fun H locs X => ?_)
  rw [zu_zu] at X
  have X : zX D B0 (zu L_16 32 0 (some (q, .inr (6, [.int (i32 0), .int (i32 0), .int (i32 30), .int (i32 1), .int (i32 1), .int (i32 0), .ref q_1, .ref q_3, .int (i32 0), .ref q_5, .ref q_7, .ref q_9, .ref q_11, .ref q_13, .ref q_15, .null, .null, .int (i32 0), .null, .int (i32 0), .null, .null, .null, .null, .null, .null, .null, .int (i32 0)])))) s.heap H _ := X
  refine lv_aload_n E.1 E.2.1 dX6_init_85 rfl (lv_at hl 0 rfl) ?_
  refine z_sipush E dX6_init_86 (by decide +kernel) ?_
  refine z_newi (N := 20808) E X 47 0 (by decide +kernel) rfl (by decide) (by decide) (by decide) dX6_init_89 (fun q_17 H X => ?_)
  obtain ⟨L_18, hL_18, ohL_18, X⟩ := mi_push (by decide) X
  refine W.widen (k := 9) (n := 41672) (by omega) (by omega) ?_
  refine z_putF E X rfl (zu_self L_18 32 0 _) rfl iX6 tyX6 tyX6_ok nmX6 15 (by decide) (by decide +kernel) rfl rfl rfl rfl (Nat.le_of_ble_eq_true rfl) dX6_init_91 (fun H locs X => ?_)
  rw [zu_zu] at X
  have X : zX D B0 (zu L_18 32 0 (some (q, .inr (6, [.int (i32 0), .int (i32 0), .int (i32 30), .int (i32 1), .int (i32 1), .int (i32 0), .ref q_1, .ref q_3, .int (i32 0), .ref q_5, .ref q_7, .ref q_9, .ref q_11, .ref q_13, .ref q_15, .ref q_17, .null, .int (i32 0), .null, .int (i32 0), .null, .null, .null, .null, .null, .null, .null, .int (i32 0)])))) s.heap H _ := X
  refine lv_aload_n E.1 E.2.1 dX6_init_94 rfl (lv_at hl 0 rfl) ?_
  refine z_sipush E dX6_init_95 (by decide +kernel) ?_
  refine z_newz (N := 408) E X 48 0 (by decide +kernel) rfl (by decide) (by decide) (by decide) dX6_init_98 (fun q_19 H X => ?_)
  obtain ⟨L_20, hL_20, ohL_20, X⟩ := mi_push (by decide) X
  refine W.widen (k := 10) (n := 42080) (by omega) (by omega) ?_
  refine z_putF E X rfl (zu_self L_20 32 0 _) rfl iX6 tyX6 tyX6_ok nmX6 16 (by decide) (by decide +kernel) rfl rfl rfl rfl (Nat.le_of_ble_eq_true rfl) dX6_init_100 (fun H locs X => ?_)
  rw [zu_zu] at X
  have X : zX D B0 (zu L_20 32 0 (some (q, .inr (6, [.int (i32 0), .int (i32 0), .int (i32 30), .int (i32 1), .int (i32 1), .int (i32 0), .ref q_1, .ref q_3, .int (i32 0), .ref q_5, .ref q_7, .ref q_9, .ref q_11, .ref q_13, .ref q_15, .ref q_17, .ref q_19, .int (i32 0), .null, .int (i32 0), .null, .null, .null, .null, .null, .null, .null, .int (i32 0)])))) s.heap H _ := X
  refine lv_aload_n E.1 E.2.1 dX6_init_103 rfl (lv_at hl 0 rfl) ?_
  refine z_bipush E dX6_init_104 (by decide +kernel) ?_
  refine z_newi (N := 8) E X 50 0 (by decide +kernel) rfl (by decide) (by decide) (by decide) dX6_init_106 (fun q_21 H X => ?_)
  obtain ⟨L_22, hL_22, ohL_22, X⟩ := mi_push (by decide) X
  refine W.widen (k := 11) (n := 42088) (by omega) (by omega) ?_
  refine z_putF E X rfl (zu_self L_22 32 0 _) rfl iX6 tyX6 tyX6_ok nmX6 18 (by decide) (by decide +kernel) rfl rfl rfl rfl (Nat.le_of_ble_eq_true rfl) dX6_init_108 (fun H locs X => ?_)
  rw [zu_zu] at X
  have X : zX D B0 (zu L_22 32 0 (some (q, .inr (6, [.int (i32 0), .int (i32 0), .int (i32 30), .int (i32 1), .int (i32 1), .int (i32 0), .ref q_1, .ref q_3, .int (i32 0), .ref q_5, .ref q_7, .ref q_9, .ref q_11, .ref q_13, .ref q_15, .ref q_17, .ref q_19, .int (i32 0), .ref q_21, .int (i32 0), .null, .null, .null, .null, .null, .null, .null, .int (i32 0)])))) s.heap H _ := X
  refine lv_aload_n E.1 E.2.1 dX6_init_111 rfl (lv_at hl 0 rfl) ?_
  refine z_bipush E dX6_init_112 (by decide +kernel) ?_
  refine z_newi (N := 6) E X 52 0 (by decide +kernel) rfl (by decide) (by decide) (by decide) dX6_init_114 (fun q_23 H X => ?_)
  obtain ⟨L_24, hL_24, ohL_24, X⟩ := mi_push (by decide) X
  refine W.widen (k := 12) (n := 42094) (by omega) (by omega) ?_
  refine z_putF E X rfl (zu_self L_24 32 0 _) rfl iX6 tyX6 tyX6_ok nmX6 20 (by decide) (by decide +kernel) rfl rfl rfl rfl (Nat.le_of_ble_eq_true rfl) dX6_init_116 (fun H locs X => ?_)
  rw [zu_zu] at X
  have X : zX D B0 (zu L_24 32 0 (some (q, .inr (6, [.int (i32 0), .int (i32 0), .int (i32 30), .int (i32 1), .int (i32 1), .int (i32 0), .ref q_1, .ref q_3, .int (i32 0), .ref q_5, .ref q_7, .ref q_9, .ref q_11, .ref q_13, .ref q_15, .ref q_17, .ref q_19, .int (i32 0), .ref q_21, .int (i32 0), .ref q_23, .null, .null, .null, .null, .null, .null, .int (i32 0)])))) s.heap H _ := X
  refine lv_aload_n E.1 E.2.1 dX6_init_119 rfl (lv_at hl 0 rfl) ?_
  refine z_bipush E dX6_init_120 (by decide +kernel) ?_
  refine z_newi (N := 6) E X 53 0 (by decide +kernel) rfl (by decide) (by decide) (by decide) dX6_init_122 (fun q_25 H X => ?_)
  obtain ⟨L_26, hL_26, ohL_26, X⟩ := mi_push (by decide) X
  refine W.widen (k := 13) (n := 42100) (by omega) (by omega) ?_
  refine z_putF E X rfl (zu_self L_26 32 0 _) rfl iX6 tyX6 tyX6_ok nmX6 21 (by decide) (by decide +kernel) rfl rfl rfl rfl (Nat.le_of_ble_eq_true rfl) dX6_init_124 (fun H locs X => ?_)
  rw [zu_zu] at X
  have X : zX D B0 (zu L_26 32 0 (some (q, .inr (6, [.int (i32 0), .int (i32 0), .int (i32 30), .int (i32 1), .int (i32 1), .int (i32 0), .ref q_1, .ref q_3, .int (i32 0), .ref q_5, .ref q_7, .ref q_9, .ref q_11, .ref q_13, .ref q_15, .ref q_17, .ref q_19, .int (i32 0), .ref q_21, .int (i32 0), .ref q_23, .ref q_25, .null, .null, .null, .null, .null, .int (i32 0)])))) s.heap H _ := X
  refine lv_aload_n E.1 E.2.1 dX6_init_127 rfl (lv_at hl 0 rfl) ?_
  refine z_bipush E dX6_init_128 (by decide +kernel) ?_
  refine z_newi (N := 6) E X 54 0 (by decide +kernel) rfl (by decide) (by decide) (by decide) dX6_init_130 (fun q_27 H X => ?_)
  obtain ⟨L_28, hL_28, ohL_28, X⟩ := mi_push (by decide) X
  refine W.widen (k := 14) (n := 42106) (by omega) (by omega) ?_
  refine z_putF E X rfl (zu_self L_28 32 0 _) rfl iX6 tyX6 tyX6_ok nmX6 22 (by decide) (by decide +kernel) rfl rfl rfl rfl (Nat.le_of_ble_eq_true rfl) dX6_init_132 (fun H locs X => ?_)
  rw [zu_zu] at X
  have X : zX D B0 (zu L_28 32 0 (some (q, .inr (6, [.int (i32 0), .int (i32 0), .int (i32 30), .int (i32 1), .int (i32 1), .int (i32 0), .ref q_1, .ref q_3, .int (i32 0), .ref q_5, .ref q_7, .ref q_9, .ref q_11, .ref q_13, .ref q_15, .ref q_17, .ref q_19, .int (i32 0), .ref q_21, .int (i32 0), .ref q_23, .ref q_25, .ref q_27, .null, .null, .null, .null, .int (i32 0)])))) s.heap H _ := X
  refine lv_aload_n E.1 E.2.1 dX6_init_135 rfl (lv_at hl 0 rfl) ?_
  refine z_bipush E dX6_init_136 (by decide +kernel) ?_
  refine z_newi (N := 6) E X 55 0 (by decide +kernel) rfl (by decide) (by decide) (by decide) dX6_init_138 (fun q_29 H X => ?_)
  obtain ⟨L_30, hL_30, ohL_30, X⟩ := mi_push (by decide) X
  refine W.widen (k := 15) (n := 42112) (by omega) (by omega) ?_
  refine lv_dup E.1 E.2.1 dX6_init_140 rfl ?_
  refine z_iconst E dX6_init_141 ?_
  refine z_iconst E dX6_init_142 ?_
  refine z_iast E X ((zu_ne (by decide)).trans (hL_30)) 0 (by omega) (by omega) (by decide) dX6_init_143 (fun H locs X => ?_)
  obtain ⟨L_31, hL_31, ohL_31, X⟩ := mi_push (by decide) X
  refine lv_dup E.1 E.2.1 dX6_init_144 rfl ?_
  refine z_iconst E dX6_init_145 ?_
  refine z_iconst E dX6_init_146 ?_
  refine z_iast E X ((zu_ne (by decide)).trans (hL_31)) 1 (by omega) (by omega) (by decide) dX6_init_147 (fun H locs X => ?_)
  obtain ⟨L_32, hL_32, ohL_32, X⟩ := mi_push (by decide) X
  refine lv_dup E.1 E.2.1 dX6_init_148 rfl ?_
  refine z_iconst E dX6_init_149 ?_
  refine z_iconst E dX6_init_150 ?_
  refine z_iast E X ((zu_ne (by decide)).trans (hL_32)) 2 (by omega) (by omega) (by decide) dX6_init_151 (fun H locs X => ?_)
  obtain ⟨L_33, hL_33, ohL_33, X⟩ := mi_push (by decide) X
  refine lv_dup E.1 E.2.1 dX6_init_152 rfl ?_
  refine z_iconst E dX6_init_153 ?_
  refine z_iconst E dX6_init_154 ?_
  refine z_iast E X ((zu_ne (by decide)).trans (hL_33)) 3 (by omega) (by omega) (by decide) dX6_init_155 (fun H locs X => ?_)
  obtain ⟨L_34, hL_34, ohL_34, X⟩ := mi_push (by decide) X
  refine lv_dup E.1 E.2.1 dX6_init_156 rfl ?_
  refine z_iconst E dX6_init_157 ?_
  refine z_iconst E dX6_init_158 ?_
  refine z_iast E X ((zu_ne (by decide)).trans (hL_34)) 4 (by omega) (by omega) (by decide) dX6_init_159 (fun H locs X => ?_)
  obtain ⟨L_35, hL_35, ohL_35, X⟩ := mi_push (by decide) X
  refine lv_dup E.1 E.2.1 dX6_init_160 rfl ?_
  refine z_iconst E dX6_init_161 ?_
  refine z_iconst E dX6_init_162 ?_
  refine z_iast E X ((zu_ne (by decide)).trans (hL_35)) 5 (by omega) (by omega) (by decide) dX6_init_163 (fun H locs X => ?_)
  obtain ⟨L_36, hL_36, ohL_36, X⟩ := mi_push (by decide) X
  refine z_putF E X rfl (zu_self L_36 32 0 _) rfl iX6 tyX6 tyX6_ok nmX6 23 (by decide) (by decide +kernel) rfl rfl rfl rfl (Nat.le_of_ble_eq_true rfl) dX6_init_164 (fun H locs X => ?_)
  rw [zu_zu] at X
  have X : zX D B0 (zu L_36 32 0 (some (q, .inr (6, [.int (i32 0), .int (i32 0), .int (i32 30), .int (i32 1), .int (i32 1), .int (i32 0), .ref q_1, .ref q_3, .int (i32 0), .ref q_5, .ref q_7, .ref q_9, .ref q_11, .ref q_13, .ref q_15, .ref q_17, .ref q_19, .int (i32 0), .ref q_21, .int (i32 0), .ref q_23, .ref q_25, .ref q_27, .ref q_29, .null, .null, .null, .int (i32 0)])))) s.heap H _ := X
  refine lv_aload_n E.1 E.2.1 dX6_init_167 rfl (lv_at hl 0 rfl) ?_
  refine z_bipush E dX6_init_168 (by decide +kernel) ?_
  refine z_newi (N := 6) E X 56 0 (by decide +kernel) rfl (by decide) (by decide) (by decide) dX6_init_170 (fun q_37 H X => ?_)
  obtain ⟨L_38, hL_38, ohL_38, X⟩ := mi_push (by decide) X
  refine W.widen (k := 16) (n := 42118) (by omega) (by omega) ?_
  refine z_putF E X rfl (zu_self L_38 32 0 _) rfl iX6 tyX6 tyX6_ok nmX6 24 (by decide) (by decide +kernel) rfl rfl rfl rfl (Nat.le_of_ble_eq_true rfl) dX6_init_172 (fun H locs X => ?_)
  rw [zu_zu] at X
  have X : zX D B0 (zu L_38 32 0 (some (q, .inr (6, [.int (i32 0), .int (i32 0), .int (i32 30), .int (i32 1), .int (i32 1), .int (i32 0), .ref q_1, .ref q_3, .int (i32 0), .ref q_5, .ref q_7, .ref q_9, .ref q_11, .ref q_13, .ref q_15, .ref q_17, .ref q_19, .int (i32 0), .ref q_21, .int (i32 0), .ref q_23, .ref q_25, .ref q_27, .ref q_29, .ref q_37, .null, .null, .int (i32 0)])))) s.heap H _ := X
  refine lv_aload_n E.1 E.2.1 dX6_init_175 rfl (lv_at hl 0 rfl) ?_
  refine z_sipush E dX6_init_176 (by decide +kernel) ?_
  refine z_newi (N := 384) E X 57 0 (by decide +kernel) rfl (by decide) (by decide) (by decide) dX6_init_179 (fun q_39 H X => ?_)
  obtain ⟨L_40, hL_40, ohL_40, X⟩ := mi_push (by decide) X
  refine W.widen (k := 17) (n := 42502) (by omega) (by omega) ?_
  refine z_putF E X rfl (zu_self L_40 32 0 _) rfl iX6 tyX6 tyX6_ok nmX6 25 (by decide) (by decide +kernel) rfl rfl rfl rfl (Nat.le_of_ble_eq_true rfl) dX6_init_181 (fun H locs X => ?_)
  rw [zu_zu] at X
  have X : zX D B0 (zu L_40 32 0 (some (q, .inr (6, [.int (i32 0), .int (i32 0), .int (i32 30), .int (i32 1), .int (i32 1), .int (i32 0), .ref q_1, .ref q_3, .int (i32 0), .ref q_5, .ref q_7, .ref q_9, .ref q_11, .ref q_13, .ref q_15, .ref q_17, .ref q_19, .int (i32 0), .ref q_21, .int (i32 0), .ref q_23, .ref q_25, .ref q_27, .ref q_29, .ref q_37, .ref q_39, .null, .int (i32 0)])))) s.heap H _ := X
  refine lv_aload_n E.1 E.2.1 dX6_init_184 rfl (lv_at hl 0 rfl) ?_
  refine z_bipush E dX6_init_185 (by decide +kernel) ?_
  refine z_newi (N := 64) E X 58 0 (by decide +kernel) rfl (by decide) (by decide) (by decide) dX6_init_187 (fun q_41 H X => ?_)
  obtain ⟨L_42, hL_42, ohL_42, X⟩ := mi_push (by decide) X
  refine W.widen (k := 18) (n := 42566) (by omega) (by omega) ?_
  refine z_putF E X rfl (zu_self L_42 32 0 _) rfl iX6 tyX6 tyX6_ok nmX6 26 (by decide) (by decide +kernel) rfl rfl rfl rfl (Nat.le_of_ble_eq_true rfl) dX6_init_189 (fun H locs X => ?_)
  rw [zu_zu] at X
  have X : zX D B0 (zu L_42 32 0 (some (q, .inr (6, [.int (i32 0), .int (i32 0), .int (i32 30), .int (i32 1), .int (i32 1), .int (i32 0), .ref q_1, .ref q_3, .int (i32 0), .ref q_5, .ref q_7, .ref q_9, .ref q_11, .ref q_13, .ref q_15, .ref q_17, .ref q_19, .int (i32 0), .ref q_21, .int (i32 0), .ref q_23, .ref q_25, .ref q_27, .ref q_29, .ref q_37, .ref q_39, .ref q_41, .int (i32 0)])))) s.heap H _ := X
  have X := mi_in (L := L) (am := (fun k => ([q, 0, 0, 0, 0, 0, q_1, q_3, 0, q_5, q_7, q_9, q_11, q_13, q_15, q_17, q_19, 0, q_21, 0, q_23, q_25, q_27, q_29, q_37, q_39, q_41] : List Nat).getD k 0)) (g := zg (zg (zg (zg (zg (zg (fun _ => 0) 0 (-1)) 1 (-1)) 2 (-1)) 3 (-1)) 4 (-1)) 5 (-1)) (zu_self _ _ _ _) ((zu_ne (by decide)).trans ((ohL_42 38 0 (by decide)).trans ((ohL_40 38 0 (by decide)).trans ((ohL_38 38 0 (by decide)).trans ((ohL_36 38 0 (by decide)).trans ((ohL_35 38 0 (by decide)).trans ((ohL_34 38 0 (by decide)).trans ((ohL_33 38 0 (by decide)).trans ((ohL_32 38 0 (by decide)).trans ((ohL_31 38 0 (by decide)).trans ((ohL_30 38 0 (by decide)).trans ((ohL_28 38 0 (by decide)).trans ((ohL_26 38 0 (by decide)).trans ((ohL_24 38 0 (by decide)).trans ((ohL_22 38 0 (by decide)).trans ((ohL_20 38 0 (by decide)).trans ((ohL_18 38 0 (by decide)).trans ((ohL_16 38 0 (by decide)).trans ((ohL_14 38 0 (by decide)).trans ((ohL_12 38 0 (by decide)).trans ((ohL_10 38 0 (by decide)).trans ((ohL_8 38 0 (by decide)).trans ((ohL_6 38 0 (by decide)).trans ((ohL_4 38 0 (by decide)).trans (hL_2))))))))))))))))))))))))) ((zu_ne (by decide)).trans ((ohL_42 39 0 (by decide)).trans ((ohL_40 39 0 (by decide)).trans ((ohL_38 39 0 (by decide)).trans ((ohL_36 39 0 (by decide)).trans ((ohL_35 39 0 (by decide)).trans ((ohL_34 39 0 (by decide)).trans ((ohL_33 39 0 (by decide)).trans ((ohL_32 39 0 (by decide)).trans ((ohL_31 39 0 (by decide)).trans ((ohL_30 39 0 (by decide)).trans ((ohL_28 39 0 (by decide)).trans ((ohL_26 39 0 (by decide)).trans ((ohL_24 39 0 (by decide)).trans ((ohL_22 39 0 (by decide)).trans ((ohL_20 39 0 (by decide)).trans ((ohL_18 39 0 (by decide)).trans ((ohL_16 39 0 (by decide)).trans ((ohL_14 39 0 (by decide)).trans ((ohL_12 39 0 (by decide)).trans ((ohL_10 39 0 (by decide)).trans ((ohL_8 39 0 (by decide)).trans ((ohL_6 39 0 (by decide)).trans (hL_4)))))))))))))))))))))))) ((zu_ne (by decide)).trans ((ohL_42 41 0 (by decide)).trans ((ohL_40 41 0 (by decide)).trans ((ohL_38 41 0 (by decide)).trans ((ohL_36 41 0 (by decide)).trans ((ohL_35 41 0 (by decide)).trans ((ohL_34 41 0 (by decide)).trans ((ohL_33 41 0 (by decide)).trans ((ohL_32 41 0 (by decide)).trans ((ohL_31 41 0 (by decide)).trans ((ohL_30 41 0 (by decide)).trans ((ohL_28 41 0 (by decide)).trans ((ohL_26 41 0 (by decide)).trans ((ohL_24 41 0 (by decide)).trans ((ohL_22 41 0 (by decide)).trans ((ohL_20 41 0 (by decide)).trans ((ohL_18 41 0 (by decide)).trans ((ohL_16 41 0 (by decide)).trans ((ohL_14 41 0 (by decide)).trans ((ohL_12 41 0 (by decide)).trans ((ohL_10 41 0 (by decide)).trans ((ohL_8 41 0 (by decide)).trans (hL_6))))))))))))))))))))))) ((zu_ne (by decide)).trans ((ohL_42 42 0 (by decide)).trans ((ohL_40 42 0 (by decide)).trans ((ohL_38 42 0 (by decide)).trans ((ohL_36 42 0 (by decide)).trans ((ohL_35 42 0 (by decide)).trans ((ohL_34 42 0 (by decide)).trans ((ohL_33 42 0 (by decide)).trans ((ohL_32 42 0 (by decide)).trans ((ohL_31 42 0 (by decide)).trans ((ohL_30 42 0 (by decide)).trans ((ohL_28 42 0 (by decide)).trans ((ohL_26 42 0 (by decide)).trans ((ohL_24 42 0 (by decide)).trans ((ohL_22 42 0 (by decide)).trans ((ohL_20 42 0 (by decide)).trans ((ohL_18 42 0 (by decide)).trans ((ohL_16 42 0 (by decide)).trans ((ohL_14 42 0 (by decide)).trans ((ohL_12 42 0 (by decide)).trans ((ohL_10 42 0 (by decide)).trans (hL_8)))))))))))))))))))))) ((zu_ne (by decide)).trans ((ohL_42 43 0 (by decide)).trans ((ohL_40 43 0 (by decide)).trans ((ohL_38 43 0 (by decide)).trans ((ohL_36 43 0 (by decide)).trans ((ohL_35 43 0 (by decide)).trans ((ohL_34 43 0 (by decide)).trans ((ohL_33 43 0 (by decide)).trans ((ohL_32 43 0 (by decide)).trans ((ohL_31 43 0 (by decide)).trans ((ohL_30 43 0 (by decide)).trans ((ohL_28 43 0 (by decide)).trans ((ohL_26 43 0 (by decide)).trans ((ohL_24 43 0 (by decide)).trans ((ohL_22 43 0 (by decide)).trans ((ohL_20 43 0 (by decide)).trans ((ohL_18 43 0 (by decide)).trans ((ohL_16 43 0 (by decide)).trans ((ohL_14 43 0 (by decide)).trans ((ohL_12 43 0 (by decide)).trans (hL_10))))))))))))))))))))) ((zu_ne (by decide)).trans ((ohL_42 44 0 (by decide)).trans ((ohL_40 44 0 (by decide)).trans ((ohL_38 44 0 (by decide)).trans ((ohL_36 44 0 (by decide)).trans ((ohL_35 44 0 (by decide)).trans ((ohL_34 44 0 (by decide)).trans ((ohL_33 44 0 (by decide)).trans ((ohL_32 44 0 (by decide)).trans ((ohL_31 44 0 (by decide)).trans ((ohL_30 44 0 (by decide)).trans ((ohL_28 44 0 (by decide)).trans ((ohL_26 44 0 (by decide)).trans ((ohL_24 44 0 (by decide)).trans ((ohL_22 44 0 (by decide)).trans ((ohL_20 44 0 (by decide)).trans ((ohL_18 44 0 (by decide)).trans ((ohL_16 44 0 (by decide)).trans ((ohL_14 44 0 (by decide)).trans (hL_12)))))))))))))))))))) ((zu_ne (by decide)).trans ((ohL_42 45 0 (by decide)).trans ((ohL_40 45 0 (by decide)).trans ((ohL_38 45 0 (by decide)).trans ((ohL_36 45 0 (by decide)).trans ((ohL_35 45 0 (by decide)).trans ((ohL_34 45 0 (by decide)).trans ((ohL_33 45 0 (by decide)).trans ((ohL_32 45 0 (by decide)).trans ((ohL_31 45 0 (by decide)).trans ((ohL_30 45 0 (by decide)).trans ((ohL_28 45 0 (by decide)).trans ((ohL_26 45 0 (by decide)).trans ((ohL_24 45 0 (by decide)).trans ((ohL_22 45 0 (by decide)).trans ((ohL_20 45 0 (by decide)).trans ((ohL_18 45 0 (by decide)).trans ((ohL_16 45 0 (by decide)).trans (hL_14))))))))))))))))))) ((zu_ne (by decide)).trans ((ohL_42 46 0 (by decide)).trans ((ohL_40 46 0 (by decide)).trans ((ohL_38 46 0 (by decide)).trans ((ohL_36 46 0 (by decide)).trans ((ohL_35 46 0 (by decide)).trans ((ohL_34 46 0 (by decide)).trans ((ohL_33 46 0 (by decide)).trans ((ohL_32 46 0 (by decide)).trans ((ohL_31 46 0 (by decide)).trans ((ohL_30 46 0 (by decide)).trans ((ohL_28 46 0 (by decide)).trans ((ohL_26 46 0 (by decide)).trans ((ohL_24 46 0 (by decide)).trans ((ohL_22 46 0 (by decide)).trans ((ohL_20 46 0 (by decide)).trans ((ohL_18 46 0 (by decide)).trans (hL_16)))))))))))))))))) ((zu_ne (by decide)).trans ((ohL_42 47 0 (by decide)).trans ((ohL_40 47 0 (by decide)).trans ((ohL_38 47 0 (by decide)).trans ((ohL_36 47 0 (by decide)).trans ((ohL_35 47 0 (by decide)).trans ((ohL_34 47 0 (by decide)).trans ((ohL_33 47 0 (by decide)).trans ((ohL_32 47 0 (by decide)).trans ((ohL_31 47 0 (by decide)).trans ((ohL_30 47 0 (by decide)).trans ((ohL_28 47 0 (by decide)).trans ((ohL_26 47 0 (by decide)).trans ((ohL_24 47 0 (by decide)).trans ((ohL_22 47 0 (by decide)).trans ((ohL_20 47 0 (by decide)).trans (hL_18))))))))))))))))) ((zu_ne (by decide)).trans ((ohL_42 48 0 (by decide)).trans ((ohL_40 48 0 (by decide)).trans ((ohL_38 48 0 (by decide)).trans ((ohL_36 48 0 (by decide)).trans ((ohL_35 48 0 (by decide)).trans ((ohL_34 48 0 (by decide)).trans ((ohL_33 48 0 (by decide)).trans ((ohL_32 48 0 (by decide)).trans ((ohL_31 48 0 (by decide)).trans ((ohL_30 48 0 (by decide)).trans ((ohL_28 48 0 (by decide)).trans ((ohL_26 48 0 (by decide)).trans ((ohL_24 48 0 (by decide)).trans ((ohL_22 48 0 (by decide)).trans (hL_20)))))))))))))))) ((zu_ne (by decide)).trans ((ohL_42 50 0 (by decide)).trans ((ohL_40 50 0 (by decide)).trans ((ohL_38 50 0 (by decide)).trans ((ohL_36 50 0 (by decide)).trans ((ohL_35 50 0 (by decide)).trans ((ohL_34 50 0 (by decide)).trans ((ohL_33 50 0 (by decide)).trans ((ohL_32 50 0 (by decide)).trans ((ohL_31 50 0 (by decide)).trans ((ohL_30 50 0 (by decide)).trans ((ohL_28 50 0 (by decide)).trans ((ohL_26 50 0 (by decide)).trans ((ohL_24 50 0 (by decide)).trans (hL_22))))))))))))))) ((zu_ne (by decide)).trans ((ohL_42 52 0 (by decide)).trans ((ohL_40 52 0 (by decide)).trans ((ohL_38 52 0 (by decide)).trans ((ohL_36 52 0 (by decide)).trans ((ohL_35 52 0 (by decide)).trans ((ohL_34 52 0 (by decide)).trans ((ohL_33 52 0 (by decide)).trans ((ohL_32 52 0 (by decide)).trans ((ohL_31 52 0 (by decide)).trans ((ohL_30 52 0 (by decide)).trans ((ohL_28 52 0 (by decide)).trans ((ohL_26 52 0 (by decide)).trans (hL_24)))))))))))))) ((zu_ne (by decide)).trans ((ohL_42 53 0 (by decide)).trans ((ohL_40 53 0 (by decide)).trans ((ohL_38 53 0 (by decide)).trans ((ohL_36 53 0 (by decide)).trans ((ohL_35 53 0 (by decide)).trans ((ohL_34 53 0 (by decide)).trans ((ohL_33 53 0 (by decide)).trans ((ohL_32 53 0 (by decide)).trans ((ohL_31 53 0 (by decide)).trans ((ohL_30 53 0 (by decide)).trans ((ohL_28 53 0 (by decide)).trans (hL_26))))))))))))) ((zu_ne (by decide)).trans ((ohL_42 54 0 (by decide)).trans ((ohL_40 54 0 (by decide)).trans ((ohL_38 54 0 (by decide)).trans ((ohL_36 54 0 (by decide)).trans ((ohL_35 54 0 (by decide)).trans ((ohL_34 54 0 (by decide)).trans ((ohL_33 54 0 (by decide)).trans ((ohL_32 54 0 (by decide)).trans ((ohL_31 54 0 (by decide)).trans ((ohL_30 54 0 (by decide)).trans (hL_28)))))))))))) ((zu_ne (by decide)).trans ((ohL_42 55 0 (by decide)).trans ((ohL_40 55 0 (by decide)).trans ((ohL_38 55 0 (by decide)).trans (hL_36))))) ((zu_ne (by decide)).trans ((ohL_42 56 0 (by decide)).trans ((ohL_40 56 0 (by decide)).trans (hL_38)))) ((zu_ne (by decide)).trans ((ohL_42 57 0 (by decide)).trans (hL_40))) ((zu_ne (by decide)).trans (hL_42)) (fun j hj => by rcases (show j = 0 ∨ j = 1 ∨ j = 2 ∨ j = 3 ∨ j = 4 ∨ j = 5 by omega) with rfl | rfl | rfl | rfl | rfl | rfl <;> rfl) (fun k i hk => (zu_ne (by omega)).trans ((ohL_42 k i (by omega)).trans ((ohL_40 k i (by omega)).trans ((ohL_38 k i (by omega)).trans ((ohL_36 k i (by omega)).trans ((ohL_35 k i (by omega)).trans ((ohL_34 k i (by omega)).trans ((ohL_33 k i (by omega)).trans ((ohL_32 k i (by omega)).trans ((ohL_31 k i (by omega)).trans ((ohL_30 k i (by omega)).trans ((ohL_28 k i (by omega)).trans ((ohL_26 k i (by omega)).trans ((ohL_24 k i (by omega)).trans ((ohL_22 k i (by omega)).trans ((ohL_20 k i (by omega)).trans ((ohL_18 k i (by omega)).trans ((ohL_16 k i (by omega)).trans ((ohL_14 k i (by omega)).trans ((ohL_12 k i (by omega)).trans ((ohL_10 k i (by omega)).trans ((ohL_8 k i (by omega)).trans ((ohL_6 k i (by omega)).trans ((ohL_4 k i (by omega)).trans ((ohL_2 k i (by omega)).trans (rfl)))))))))))))))))))))))))) X
  exact z_retv E X hQ (⟨rfl, (fun k => ([q, 0, 0, 0, 0, 0, q_1, q_3, 0, q_5, q_7, q_9, q_11, q_13, q_15, q_17, q_19, 0, q_21, 0, q_23, q_25, q_27, q_29, q_37, q_39, q_41] : List Nat).getD k 0), zU0, rfl, MC_zero (fun _ _ => rfl), X.1⟩) dX6_init_192

