theorem zu_zu (L : zL) (k i : Nat) (p q : Option (Nat × va_E)) : zu (zu L k i p) k i q = zu L k i q := by
  funext k' i'
  unfold zu
  split <;> rfl
theorem zu_id {L : zL} {k i : Nat} {q : Option (Nat × va_E)} (h : L k i = q) : zu L k i q = L := by
  funext k' i'
  unfold zu
  split
  · rename_i e
    rw [e.1, e.2, h]
  · rfl
theorem zX.arr {D : va_G} {B0 : Nat} {L : zL} {k i a n : Nat} {cA : Nat → ClassId} {f g : Nat → Int} {H0 H : Heap} {locs : List Loc} (X : zX D B0 (zu L k i (some (kI cA a n f))) H0 H locs) (h : ∀ j, j < n → f j = g j) : zX D B0 (zu L k i (some (kI cA a n g))) H0 H locs := by
  have e : vp_cell (cA 0) (n, .inl (fun j => i32 (f j))) = vp_cell (cA 0) (n, .inl (fun j => i32 (g j))) := z_arr (fun j hj => by rw [h j hj])
  obtain ⟨⟨w1, w2, w3⟩, hS⟩ := X
  refine ⟨⟨fun k' i' q hq => ?_, fun k1 i1 k2 i2 q q' h1 h2 hx => ?_, w3⟩, hS⟩
  · rcases zu_at hq with ⟨a1, a2, a3⟩ | ⟨a1, a2⟩
    · cases a3
      obtain ⟨x1, x2⟩ := w1 k i _ (zu_self L k i _)
      refine ⟨?_, x2⟩
      have x1 : H[a]? = some (vp_cell (cA 0) (n, .inl (fun j => i32 (f j)))) := x1
      show H[a]? = some (vp_cell (cA 0) (n, .inl (fun j => i32 (g j))))
      rw [← e]
      exact x1
    · exact w1 k' i' q (by rw [zu_ne a1]; exact a2)
  · rcases zu_at h1 with ⟨a1, a2, a3⟩ | ⟨a1, a2⟩ <;> rcases zu_at h2 with ⟨b1, b2, b3⟩ | ⟨b1, b2⟩
    · exact ⟨a1.trans b1.symm, a2.trans b2.symm⟩
    · cases a3
      have := w2 k i k2 i2 _ q' (zu_self L k i _) (by rw [zu_ne b1]; exact b2) hx
      exact absurd ⟨this.1.symm, this.2.symm⟩ b1
    · cases b3
      have := w2 k1 i1 k i q _ (by rw [zu_ne a1]; exact a2) (zu_self L k i _) hx
      exact absurd this a1
    · exact w2 k1 i1 k2 i2 q q' (by rw [zu_ne a1]; exact a2) (by rw [zu_ne b1]; exact b2) hx
/-! the layers alone: slots 0 wedge, 1 plate, 2 plateSlowness, 3 wedgeTicks, 4 plateTicks, 5 times, 6 ready -/
def zf (T : zS) (k : Nat) (f : Nat → Int) : zS := fun k' => bif Nat.beq k' k then f else T k'
theorem nbeq {k m : Nat} (h : k ≠ m) : Nat.beq k m = false := by
  cases hb : Nat.beq k m with
  | false => rfl
  | true => exact absurd (Nat.eq_of_beq_eq_true hb) h
theorem zf_ne {T : zS} {k k' : Nat} {f : Nat → Int} (h : k' ≠ k) : zf T k f k' = T k' := by
  unfold zf
  rw [nbeq h]
  rfl
theorem zf_eq {T : zS} {k : Nat} {f : Nat → Int} : zf T k f k = f := by
  unfold zf
  rw [show Nat.beq k k = true from Nat.beq_refl k]
  rfl
abbrev lfs (h : Nat → Nat) (T : zS) : List Value := [.int (i32 (T 0 0)), .int (i32 (T 1 0)), .int (i32 (T 2 0)), .ref (h 3), .ref (h 4), .ref (h 5), .ref (h 6)]
def layL (cA : Nat → ClassId) (h : Nat → Nat) (T : zS) : zL := fun k i => if i = 0 then (match k with
  | 1 => some (h 0, .inr (1, lfs h T))
  | 2 => some (kI cA (h 3) 51 (T 3))
  | 3 => some (kI cA (h 4) 51 (T 4))
  | 9 => some (kI cA (h 5) 1632 (T 5))
  | 11 => some (kZ cA (h 6) 32 (T 6))
  | _ => none) else none
def zl (Y R : zL) : zL := fun k i => bif (Nat.beq k 1 || Nat.beq k 2 || Nat.beq k 3 || Nat.beq k 9 || Nat.beq k 11) then Y k i else R k i
theorem zl_no {Y R : zL} {k i : Nat} (h1 : k ≠ 1) (h2 : k ≠ 2) (h3 : k ≠ 3) (h9 : k ≠ 9) (h11 : k ≠ 11) : zl Y R k i = R k i := by
  unfold zl
  rw [nbeq h1, nbeq h2, nbeq h3, nbeq h9, nbeq h11]
  rfl
theorem lL_0 (R : zL) (cA : Nat → ClassId) (h : Nat → Nat) (T : zS) : zl (layL cA h T) R 1 0 = some (h 0, .inr (1, lfs h T)) := rfl
theorem lL_3 (R : zL) (cA : Nat → ClassId) (h : Nat → Nat) (T : zS) : zl (layL cA h T) R 2 0 = some (kI cA (h 3) 51 (T 3)) := rfl
theorem lL_4 (R : zL) (cA : Nat → ClassId) (h : Nat → Nat) (T : zS) : zl (layL cA h T) R 3 0 = some (kI cA (h 4) 51 (T 4)) := rfl
theorem lL_5 (R : zL) (cA : Nat → ClassId) (h : Nat → Nat) (T : zS) : zl (layL cA h T) R 9 0 = some (kI cA (h 5) 1632 (T 5)) := rfl
theorem lL_6 (R : zL) (cA : Nat → ClassId) (h : Nat → Nat) (T : zS) : zl (layL cA h T) R 11 0 = some (kZ cA (h 6) 32 (T 6)) := rfl
theorem zl_Y {Y Y' R : zL} {k i : Nat} (h : Y' k i = Y k i) : zl Y' R k i = zl Y R k i := by
  unfold zl
  rw [h]
theorem lp_0 {D : va_G} {B0 : Nat} {R : zL} {cA : Nat → ClassId} {h : Nat → Nat} {T : zS} {H0 H : Heap} {locs : List Loc} {x : Int} (X : zX D B0 (zu (zl (layL cA h T) R) 1 0 (some (h 0, .inr (1, (lfs h T).set 0 (.int (i32 x)))))) H0 H locs) : zX D B0 (zl (layL cA h (zs T 0 0 x)) R) H0 H locs := by
  refine X.to (zu_to rfl (fun k i hh => zl_Y ?_))
  unfold layL
  by_cases hi : i = 0
  · rw [if_pos hi, if_pos hi]
    split <;> first | rfl | exact absurd ⟨rfl, hi⟩ hh
  · rw [if_neg hi, if_neg hi]
theorem lp_1 {D : va_G} {B0 : Nat} {R : zL} {cA : Nat → ClassId} {h : Nat → Nat} {T : zS} {H0 H : Heap} {locs : List Loc} {x : Int} (X : zX D B0 (zu (zl (layL cA h T) R) 1 0 (some (h 0, .inr (1, (lfs h T).set 1 (.int (i32 x)))))) H0 H locs) : zX D B0 (zl (layL cA h (zs T 1 0 x)) R) H0 H locs := by
  refine X.to (zu_to rfl (fun k i hh => zl_Y ?_))
  unfold layL
  by_cases hi : i = 0
  · rw [if_pos hi, if_pos hi]
    split <;> first | rfl | exact absurd ⟨rfl, hi⟩ hh
  · rw [if_neg hi, if_neg hi]
theorem lp_2 {D : va_G} {B0 : Nat} {R : zL} {cA : Nat → ClassId} {h : Nat → Nat} {T : zS} {H0 H : Heap} {locs : List Loc} {x : Int} (X : zX D B0 (zu (zl (layL cA h T) R) 1 0 (some (h 0, .inr (1, (lfs h T).set 2 (.int (i32 x)))))) H0 H locs) : zX D B0 (zl (layL cA h (zs T 2 0 x)) R) H0 H locs := by
  refine X.to (zu_to rfl (fun k i hh => zl_Y ?_))
  unfold layL
  by_cases hi : i = 0
  · rw [if_pos hi, if_pos hi]
    split <;> first | rfl | exact absurd ⟨rfl, hi⟩ hh
  · rw [if_neg hi, if_neg hi]
theorem la_5 {D : va_G} {B0 : Nat} {R : zL} {cA : Nat → ClassId} {h : Nat → Nat} {T : zS} {H0 H : Heap} {locs : List Loc} {x : Int} {j : Nat} (X : zX D B0 (zu (zl (layL cA h T) R) 9 0 (some (h 5, .inl (cA 0, 1632, .inl (fun j' => i32 (zg (T 5) j x j')))))) H0 H locs) : zX D B0 (zl (layL cA h (zs T 5 j x)) R) H0 H locs := by
  refine X.to (zu_to rfl (fun k i hh => zl_Y ?_))
  unfold layL
  by_cases hi : i = 0
  · rw [if_pos hi, if_pos hi]
    split <;> first | rfl | exact absurd ⟨rfl, hi⟩ hh
  · rw [if_neg hi, if_neg hi]
theorem la_6 {D : va_G} {B0 : Nat} {R : zL} {cA : Nat → ClassId} {h : Nat → Nat} {T : zS} {H0 H : Heap} {locs : List Loc} {x : Int} {j : Nat} (X : zX D B0 (zu (zl (layL cA h T) R) 11 0 (some (h 6, .inl (cA 1, 32, .inl (fun j' => i32 (zg (T 6) j x j')))))) H0 H locs) : zX D B0 (zl (layL cA h (zs T 6 j x)) R) H0 H locs := by
  refine X.to (zu_to rfl (fun k i hh => zl_Y ?_))
  unfold layL
  by_cases hi : i = 0
  · rw [if_pos hi, if_pos hi]
    split <;> first | rfl | exact absurd ⟨rfl, hi⟩ hh
  · rw [if_neg hi, if_neg hi]
theorem lf_3 {D : va_G} {B0 : Nat} {R : zL} {cA : Nat → ClassId} {h : Nat → Nat} {T : zS} {H0 H : Heap} {locs : List Loc} {f : Nat → Int} (X : zX D B0 (zu (zl (layL cA h T) R) 2 0 (some (kI cA (h 3) 51 f))) H0 H locs) : zX D B0 (zl (layL cA h (zf T 3 f)) R) H0 H locs := by
  refine X.to (zu_to rfl (fun k i hh => zl_Y ?_))
  unfold layL
  by_cases hi : i = 0
  · rw [if_pos hi, if_pos hi]
    split <;> first | rfl | exact absurd ⟨rfl, hi⟩ hh
  · rw [if_neg hi, if_neg hi]
theorem lf_4 {D : va_G} {B0 : Nat} {R : zL} {cA : Nat → ClassId} {h : Nat → Nat} {T : zS} {H0 H : Heap} {locs : List Loc} {f : Nat → Int} (X : zX D B0 (zu (zl (layL cA h T) R) 3 0 (some (kI cA (h 4) 51 f))) H0 H locs) : zX D B0 (zl (layL cA h (zf T 4 f)) R) H0 H locs := by
  refine X.to (zu_to rfl (fun k i hh => zl_Y ?_))
  unfold layL
  by_cases hi : i = 0
  · rw [if_pos hi, if_pos hi]
    split <;> first | rfl | exact absurd ⟨rfl, hi⟩ hh
  · rw [if_neg hi, if_neg hi]
/-- the least ticks d aside, by the bends between -/
def fm (u w k dy : Int) (d b : Nat) : Int := tk u (b : Int) w + tk k ((d : Int) - (b : Int)) dy
def mt (u w k dy : Int) (d : Nat) : Int := minb (fm u w k dy d) d
def LR (T : zS) (row : Nat) (u k dy : Int) : Prop := ∀ d : Nat, d < 51 → T 5 (51 * row + d) = mt u (T 0 0) k dy d
def LV (T : zS) (u : Int) : Prop := ∀ d : Nat, d < 51 → T 3 d = tk u (d : Int) (T 0 0)
def LI (T : zS) (u : Int) : Prop := (0 ≤ T 0 0 ∧ T 0 0 ≤ 20) ∧ (1 ≤ T 1 0 ∧ T 1 0 ≤ 30) ∧ (1 ≤ T 2 0 ∧ T 2 0 ≤ 8) ∧ (∀ r : Nat, r < 32 → T 6 r = 0 ∨ T 6 r = 1) ∧ (∀ r : Nat, r < 31 → T 6 r = 1 → LR T r u (T 2 0) r) ∧ LV T u
/-- a row of times has been filled -/
def LF (T T' : zS) (row : Nat) (u k dy : Int) : Prop := (∀ q : Nat, q ≠ 4 → q ≠ 5 → q ≠ 6 → T' q = T q) ∧ T' 6 = zg (T 6) row 1 ∧ (∀ q : Nat, q < 51 * row ∨ 51 * row + 51 ≤ q → T' 5 q = T 5 q) ∧ LR T' row u k dy
theorem LI_fill {T T' : zS} {u k dy : Int} {row : Nat} (hI : LI T u) (hF : LF T T' row u k dy) (hr : row = 31 ∨ (row ≤ 30 ∧ k = T 2 0 ∧ dy = row)) : LI T' u ∧ T' 6 row = 1 ∧ LR T' row u k dy := by
  obtain ⟨b0, b1, b2, b4, br, bw⟩ := hI
  obtain ⟨f1, f2, f3, f4⟩ := hF
  have e0 := f1 0 (by decide) (by decide) (by decide)
  have e1 := f1 1 (by decide) (by decide) (by decide)
  have e2 := f1 2 (by decide) (by decide) (by decide)
  have e3 := f1 3 (by decide) (by decide) (by decide)
  refine ⟨⟨by rw [e0]; exact b0, by rw [e1]; exact b1, by rw [e2]; exact b2, fun r h => ?_, fun r h h1 => ?_, fun dx hd => ?_⟩, by rw [f2, zg_eq], f4⟩
  · rw [f2]
    unfold zg
    split
    · exact Or.inr rfl
    · exact b4 r h
  · by_cases hq : r = row
    · subst hq
      rcases hr with hr | hr
      · omega
      · rw [e2, ← hr.2.1, ← hr.2.2]
        exact f4
    · rw [f2, zg_ne hq] at h1
      intro dx hd
      rw [f3 _ (by omega), e2, e0]
      exact br r h h1 dx hd
  · rw [e3, e0]
    exact bw dx hd
theorem LI_4 {T T' : zS} {u : Int} (hI : LI T u) (h : ∀ q : Nat, q ≠ 4 → T' q = T q) : LI T' u := by
  obtain ⟨b0, b1, b2, b4, br, bw⟩ := hI
  have e0 := h 0 (by decide)
  have e1 := h 1 (by decide)
  have e2 := h 2 (by decide)
  have e3 := h 3 (by decide)
  have e5 := h 5 (by decide)
  have e6 := h 6 (by decide)
  refine ⟨by rw [e0]; exact b0, by rw [e1]; exact b1, by rw [e2]; exact b2, fun r hr => by rw [e6]; exact b4 r hr, fun r hr h1 dx hd => ?_, fun dx hd => by rw [e3, e0]; exact bw dx hd⟩
  rw [e6] at h1
  rw [e5, e2, e0]
  exact br r hr h1 dx hd
theorem sq_comm (a b : Int) : (a - b) * (a - b) = (b - a) * (b - a) := by rw [← Int.neg_mul_neg, Int.neg_sub]
theorem tk_sq {k d1 d2 dy : Int} (h : d1 * d1 = d2 * d2) : tk k d1 dy = tk k d2 dy := by
  unfold tk
  rw [h]
theorem zabs_sq (a : Int) : zabs a * zabs a = a * a := by
  unfold zabs
  split
  · rfl
  · rw [Int.neg_mul_neg]
theorem zabs_rng {a m : Int} (h1 : -m ≤ a) (h2 : a ≤ m) : 0 ≤ zabs a ∧ zabs a ≤ m := by
  unfold zabs
  split <;> omega
theorem tk_mono {k d1 d2 dy : Int} (hk : 0 ≤ k ∧ k ≤ 8) (h2 : -50 ≤ d2 ∧ d2 ≤ 50) (hy : -50 ≤ dy ∧ dy ≤ 50) (h1 : -50 ≤ d1 ∧ d1 ≤ 50) (h : d1 * d1 ≤ d2 * d2) : tk k d1 dy ≤ tk k d2 dy := by
  obtain ⟨a1, -, a3, -⟩ := tk_arg hk h1 hy
  obtain ⟨c1, c2, -⟩ := tk_arg hk h2 hy
  exact isq_mono a1 (Int.mul_le_mul_of_nonneg_left (by omega) a3) (by omega)
def fb (ex x : Nat) (u w kk dd : Int) (b : Nat) : Int := tk u ((b : Int) - (ex : Int)) w + tk kk ((x : Int) - (b : Int)) dd
theorem fb_rng {ex x b : Nat} {u w kk dd : Int} (hu : 0 ≤ u ∧ u ≤ 8) (hw : 0 ≤ w ∧ w ≤ 20) (hk : 0 ≤ kk ∧ kk ≤ 8) (hd : 0 ≤ dd ∧ dd ≤ 30) (he : ex ≤ 50) (hx : x ≤ 50) (hb : b ≤ 50) : 0 ≤ fb ex x u w kk dd b ∧ fb ex x u w kk dd b ≤ 2046 := by
  have t1 := tk_rng (k := u) (dx := (b : Int) - ex) (dy := w) hu (by omega) (by omega)
  have t2 := tk_rng (k := kk) (dx := (x : Int) - b) (dy := dd) hk (by omega) (by omega)
  unfold fb
  omega
theorem fb_near {ex x b b' : Nat} {u w kk dd : Int} (hu : 0 ≤ u ∧ u ≤ 8) (hw : 0 ≤ w ∧ w ≤ 20) (hk : 0 ≤ kk ∧ kk ≤ 8) (hd : 0 ≤ dd ∧ dd ≤ 30) (he : ex ≤ 50) (hx : x ≤ 50) (hb : b ≤ 50) (hn : (b ≤ b' ∧ b' ≤ ex ∧ b' ≤ x) ∨ (b' ≤ b ∧ ex ≤ b' ∧ x ≤ b')) : fb ex x u w kk dd b' ≤ fb ex x u w kk dd b := by
  have h1 : ((b' : Int) - ex) * ((b' : Int) - ex) ≤ ((b : Int) - ex) * ((b : Int) - ex) := by
    rcases hn with hn | hn
    · rw [sq_comm (b : Int) ex]
      exact (sq_le (by omega) (by omega)).2
    · exact (sq_le (by omega) (by omega)).2
  have h2 : ((x : Int) - b') * ((x : Int) - b') ≤ ((x : Int) - b) * ((x : Int) - b) := by
    rcases hn with hn | hn
    · exact (sq_le (by omega) (by omega)).2
    · rw [sq_comm (x : Int) b]
      exact (sq_le (by omega) (by omega)).2
  have t1 := tk_mono (k := u) (dy := w) hu (by omega) (by omega) (by omega) h1
  have t2 := tk_mono (k := kk) (dy := dd) hk (by omega) (by omega) (by omega) h2
  unfold fb
  omega
theorem minb_part {f : Nat → Int} {mn n N : Nat} (hN : mn + n ≤ N) (h : ∀ b, b ≤ N → ∃ d, d ≤ n ∧ f (mn + d) ≤ f b) : minb (fun d => f (mn + d)) n = minb f N := by
  obtain ⟨k, h1, h2, -⟩ := minb_is (f := f) N
  obtain ⟨d, h3, h4⟩ := h k h1
  have a1 : minb (fun d => f (mn + d)) n ≤ f (mn + d) := minb_le (f := fun d => f (mn + d)) h3
  have a2 : minb f N ≤ minb (fun d => f (mn + d)) n := minb_ge (fun q hq => minb_le (by omega))
  omega
/-- from the lesser to the greater of two places: no other bend is better -/
theorem fb_part {ex x mn mx : Nat} {u w kk dd : Int} (hu : 0 ≤ u ∧ u ≤ 8) (hw : 0 ≤ w ∧ w ≤ 20) (hk : 0 ≤ kk ∧ kk ≤ 8) (hd : 0 ≤ dd ∧ dd ≤ 30) (he : ex ≤ 50) (hx : x ≤ 50) (h1 : (mn = ex ∧ mx = x ∧ ex ≤ x) ∨ (mn = x ∧ mx = ex ∧ x ≤ ex)) : minb (fun d => fb ex x u w kk dd (mn + d)) (mx - mn) = minb (fb ex x u w kk dd) 50 := by
  refine minb_part (by omega) (fun b hb => ?_)
  by_cases q1 : b < mn
  · exact ⟨0, by omega, fb_near hu hw hk hd he hx hb (Or.inl (by omega))⟩
  · by_cases q2 : mx < b
    · refine ⟨mx - mn, by omega, fb_near hu hw hk hd he hx hb (Or.inr ?_)⟩
      omega
    · refine ⟨b - mn, by omega, ?_⟩
      rw [show mn + (b - mn) = b by omega]
      exact Int.le_refl _
theorem leg_w {T : zS} {u w : Int} {b ex : Nat} (h : ∀ d : Nat, d < 51 → T 3 d = tk u (d : Int) w) (hb : b ≤ 50) (he : ex ≤ 50) : T 3 (zabs ((ex : Int) - (b : Int))).toNat = tk u ((b : Int) - ex) w := by
  have hz := zabs_rng (a := (ex : Int) - b) (m := 50) (by omega) (by omega)
  rw [h (zabs ((ex : Int) - (b : Int))).toNat (by omega)]
  refine tk_sq ?_
  rw [show (((zabs ((ex : Int) - (b : Int))).toNat : Nat) : Int) = zabs ((ex : Int) - (b : Int)) by omega, zabs_sq, sq_comm]
theorem leg_p {T : zS} {kk dd : Int} {b x : Nat} (h : ∀ d : Nat, T 4 d = tk kk (d : Int) dd) (hb : b ≤ 50) (hx : x ≤ 50) : T 4 (zabs ((b : Int) - (x : Int))).toNat = tk kk ((x : Int) - b) dd := by
  have hz := zabs_rng (a := (b : Int) - x) (m := 50) (by omega) (by omega)
  rw [h (zabs ((b : Int) - (x : Int))).toNat]
  refine tk_sq ?_
  rw [show (((zabs ((b : Int) - (x : Int))).toNat : Nat) : Int) = zabs ((b : Int) - (x : Int)) by omega, zabs_sq, sq_comm]
theorem tk_neg {k d dy : Int} : tk k (-d) dy = tk k d dy := tk_sq (Int.neg_mul_neg d d)
theorem minb_rev {f g : Nat → Int} {n : Nat} (h : ∀ b : Nat, b ≤ n → f b = g (n - b)) : minb f n = minb g n := by
  have h1 : minb f n ≤ minb g n := by
    obtain ⟨k, h1, h2, -⟩ := minb_is (f := g) n
    have h3 := minb_le (f := f) (n := n) (k := n - k) (by omega)
    rw [h (n - k) (by omega), show n - (n - k) = k by omega, h2] at h3
    exact h3
  have h2 : minb g n ≤ minb f n := by
    obtain ⟨k, h1, h2, -⟩ := minb_is (f := f) n
    have h3 := minb_le (f := g) (n := n) (k := n - k) (by omega)
    rw [← h k h1, h2] at h3
    exact h3
  omega
theorem fm_rng {u w kk dd : Int} {d b : Nat} (hu : 0 ≤ u ∧ u ≤ 8) (hw : 0 ≤ w ∧ w ≤ 20) (hk : 0 ≤ kk ∧ kk ≤ 8) (hd : 0 ≤ dd ∧ dd ≤ 30) (h1 : d ≤ 50) (h2 : b ≤ 50) : 0 ≤ fm u w kk dd d b ∧ fm u w kk dd d b ≤ 2046 := by
  have t1 := tk_rng (k := u) (dx := (b : Int)) (dy := w) hu (by omega) (by omega)
  have t2 := tk_rng (k := kk) (dx := (d : Int) - b) (dy := dd) hk (by omega) (by omega)
  unfold fm
  omega
/-- as far aside, as many ticks: the bends between the two places, from either end -/
theorem mt_fb {ex x : Nat} {u w kk dd : Int} (hu : 0 ≤ u ∧ u ≤ 8) (hw : 0 ≤ w ∧ w ≤ 20) (hk : 0 ≤ kk ∧ kk ≤ 8) (hd : 0 ≤ dd ∧ dd ≤ 30) (he : ex ≤ 50) (hx : x ≤ 50) : mt u w kk dd (zabs ((ex : Int) - (x : Int))).toNat = minb (fb ex x u w kk dd) 50 := by
  rcases Nat.le_total ex x with q | q
  · have e : (zabs ((ex : Int) - (x : Int))).toNat = x - ex := by
      unfold zabs
      split <;> omega
    rw [e, ← fb_part hu hw hk hd he hx (Or.inl ⟨rfl, rfl, q⟩)]
    unfold mt
    refine minb_cong (fun b hb => ?_)
    unfold fm fb
    rw [show ((ex + b : Nat) : Int) - (ex : Int) = (b : Int) by omega, show (x : Int) - ((ex + b : Nat) : Int) = ((x - ex : Nat) : Int) - (b : Int) by omega]
  · have e : (zabs ((ex : Int) - (x : Int))).toNat = ex - x := by
      unfold zabs
      split <;> omega
    rw [e, ← fb_part hu hw hk hd he hx (Or.inr ⟨rfl, rfl, q⟩)]
    unfold mt
    refine minb_rev (fun b hb => ?_)
    unfold fm fb
    rw [show ((x + (ex - x - b) : Nat) : Int) - (ex : Int) = -(b : Int) by omega, show (x : Int) - ((x + (ex - x - b) : Nat) : Int) = -(((ex - x : Nat) : Int) - (b : Int)) by omega, tk_neg, tk_neg]
/-- the running least, as the machine finds it: the greatest int, then Math.min -/
def rmin (f : Nat → Int) : Nat → Int
  | 0 => 2147483647
  | n + 1 => zmin (rmin f n) (f n)
theorem rmin_is {f : Nat → Int} : ∀ n : Nat, (∀ k, k ≤ n → f k ≤ 2147483646) → rmin f (n + 1) = minb f n := by
  intro n
  induction n with
  | zero =>
    intro h
    have := h 0 (Nat.le_refl 0)
    show (if f 0 < 2147483647 then f 0 else 2147483647) = f 0
    rw [if_pos (by omega)]
  | succ n ih =>
    intro h
    show zmin (rmin f (n + 1)) (f (n + 1)) = _
    rw [ih (fun k hk => h k (by omega)), minb_S]
    rfl
theorem rmin_S {f : Nat → Int} {n : Nat} : rmin f (n + 1) = zmin (rmin f n) (f n) := rfl
theorem rmin_rng {f : Nat → Int} {lo : Int} (hlo : lo ≤ 2147483647) : ∀ {n : Nat}, (∀ k, k < n → lo ≤ f k) → lo ≤ rmin f n ∧ rmin f n ≤ 2147483647 := by
  intro n
  induction n with
  | zero => exact fun _ => ⟨hlo, Int.le_refl _⟩
  | succ n ih =>
    intro h
    have h1 := ih (fun k hk => h k (by omega))
    have h2 := h n (by omega)
    rw [rmin_S]
    unfold zmin
    split <;> omega
theorem argb_first {f : Nat → Int} {N b : Nat} (hb : b ≤ N) (h : f b = minb f N) (h2 : ∀ j, j < b → ¬ f j = minb f N) : argb f N = (b : Int) := by
  obtain ⟨k, h1, h3, h4, h5⟩ := minb_is (f := f) N
  have : k = b := by
    rcases Nat.lt_trichotomy k b with q | q | q
    · exact absurd h3 (h2 k q)
    · exact q
    · have := h5 b q
      omega
  rw [h4, this]
