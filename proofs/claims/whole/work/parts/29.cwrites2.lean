def ua (a : Nat → Nat → Nat) (k i q : Nat) : Nat → Nat → Nat := fun k' => bif Nat.beq k' k then (fun i' => if i' = i then q else a k i') else a k'
def ug (G : zG) (k i : Nat) (g : Nat → Int) : zG := fun k' => bif Nat.beq k' k then (fun i' => if i' = i then g else G k i') else G k'
theorem ua_k {a : Nat → Nat → Nat} {k i q : Nat} : ua a k i q k = (fun i' => if i' = i then q else a k i') := by
  unfold ua
  rw [show Nat.beq k k = true from Nat.beq_refl k]
  rfl
theorem ug_k {G : zG} {k i : Nat} {g : Nat → Int} : ug G k i g k = (fun i' => if i' = i then g else G k i') := by
  unfold ug
  rw [show Nat.beq k k = true from Nat.beq_refl k]
  rfl
theorem ua_eq {a : Nat → Nat → Nat} {k i q : Nat} : ua a k i q k i = q := by rw [ua_k]; exact if_pos rfl
theorem ua_ne {a : Nat → Nat → Nat} {k i q i' : Nat} (h : i' ≠ i) : ua a k i q k i' = a k i' := by rw [ua_k]; exact if_neg h
theorem ug_eq {G : zG} {k i : Nat} {g : Nat → Int} : ug G k i g k i = g := by rw [ug_k]; exact if_pos rfl
theorem ug_ne {G : zG} {k i i' : Nat} {g : Nat → Int} (h : i' ≠ i) : ug G k i g k i' = G k i' := by rw [ug_k]; exact if_neg h
theorem z3_at {G : zG} {k i j : Nat} {z : Int} : z3 G k i j z k i j = z := by rw [z3_eq]; simp [zg]
theorem z3_no {G : zG} {k i j i' : Nat} {z : Int} (h : i' ≠ i) : z3 G k i j z k i' = G k i' := by rw [z3_eq]; simp [h]
theorem zW.via {D : va_G} {B0 : Nat} {L L' : zL} {H : Heap} (w : zW D B0 L H) (h : ∀ (k i : Nat) (y : Nat × va_E), L' k i = some y → ∃ y' : Nat × va_E, L k i = some y' ∧ y'.1 = y.1 ∧ (va_at D vwCl y' H → va_at D vwCl y H)) : zW D B0 L' H := by
  obtain ⟨w1, w2, w3⟩ := w
  refine ⟨fun k i y hy => ?_, fun k1 i1 k2 i2 y y' h1 h2 hx => ?_, w3⟩
  · obtain ⟨y', a1, a2, a3⟩ := h k i y hy
    obtain ⟨b1, b2⟩ := w1 k i y' a1
    exact ⟨a3 b1, by rw [← a2]; exact b2⟩
  · obtain ⟨z1, a1, a2, -⟩ := h k1 i1 y h1
    obtain ⟨z2, b1, b2, -⟩ := h k2 i2 y' h2
    exact w2 k1 i1 k2 i2 z1 z2 a1 b1 (by rw [a2, b2]; exact hx)
theorem zX.via {D : va_G} {B0 : Nat} {L L' : zL} {H0 H : Heap} {locs : List Loc} (w : zX D B0 L H0 H locs) (h : ∀ (k i : Nat) (y : Nat × va_E), L' k i = some y → ∃ y' : Nat × va_E, L k i = some y' ∧ y'.1 = y.1 ∧ (va_at D vwCl y' H → va_at D vwCl y H)) : zX D B0 L' H0 H locs := ⟨w.1.via h, w.2⟩
theorem zI_at {D : va_G} {cA : Nat → ClassId} {a n : Nat} {f g : Nat → Int} {H : Heap} (h : ∀ j, j < n → f j = g j) (hv : va_at D vwCl (kI cA a n f) H) : va_at D vwCl (kI cA a n g) H := by
  have hv : H[a]? = some (vp_cell (cA 0) (n, .inl (fun j => i32 (f j)))) := hv
  show H[a]? = some (vp_cell (cA 0) (n, .inl (fun j => i32 (g j))))
  rw [hv]
  exact congrArg some (z_arr (fun j hj => by rw [h j hj]))
theorem va_up_opt {c d : Nat → Prop} [∀ j, Decidable (c j)] [∀ j, Decidable (d j)] {f g : Nat → Nat} {n q : Nat} (h1 : d n) (h2 : g n = q) (h3 : ∀ j, j ≠ n → (d j ↔ c j) ∧ g j = f j) : (fun j => opt (d j) (g j)) = va_up (fun j => opt (c j) (f j)) n (some q) := by
  funext j
  unfold va_up opt
  by_cases hj : j = n
  · subst hj
    rw [if_pos h1, if_pos rfl, h2]
  · obtain ⟨e1, e2⟩ := h3 j hj
    rw [if_neg hj, e2]
    show (if d j then some (f j) else none) = (if c j then some (f j) else none)
    by_cases hc : c j
    · rw [if_pos hc, if_pos (e1.mpr hc)]
    · rw [if_neg hc, if_neg (fun q => hc (e1.mp q))]
theorem va_up_non {c d : Nat → Prop} [∀ j, Decidable (c j)] [∀ j, Decidable (d j)] {f : Nat → Nat} {n : Nat} (h1 : ¬ d n) (h3 : ∀ j, j ≠ n → (d j ↔ c j)) : (fun j => opt (d j) (f j)) = va_up (fun j => opt (c j) (f j)) n none := by
  funext j
  unfold va_up opt
  by_cases hj : j = n
  · subst hj
    rw [if_neg h1, if_pos rfl]
  · have e1 := h3 j hj
    rw [if_neg hj]
    show (if d j then some (f j) else none) = (if c j then some (f j) else none)
    by_cases hc : c j
    · rw [if_pos hc, if_pos (e1.mpr hc)]
    · rw [if_neg hc, if_neg (fun q => hc (e1.mp q))]
theorem cw_element {D : va_G} {B0 : Nat} {M : zL} {cA : Nat → ClassId} {a : Nat → Nat → Nat} {G : zG} {S : zS} {H0 H : Heap} {locs : List Loc} {n q : Nat} {x : Int} (hn : S 5 0 = (n : Int)) (h3 : ∀ i : Nat, (i : Int) < S 19 0 → (S 20 i).toNat ≠ n ∧ (S 21 i).toNat ≠ n) (X : zX D B0 (zu (zu (zu (zj (layC cA a G S) M) 10 n (some (q, .inr (0, [.int (i32 (n : Int)), .int (i32 x), .int (i32 1), .int 0])))) 4 0 (some (kQ (cA 2) (a 4 0) 8 (va_up (fun j => opt ((j : Int) < S 5 0) (a 10 j)) n (some q))))) 0 0 (some (a 0 0, .inr (5, (cfs a S).set 6 (.int (i32 (S 5 0 + 1))))))) H0 H locs) : zX D B0 (zj (layC cA (ua a 10 n q) (z3 G 10 n 0 0) (zs (zs (zs S 6 n x) 7 n 0) 5 0 (S 5 0 + 1))) M) H0 H locs := by
  refine X.to (fun k i => ?_)
  by_cases h0 : k = 0 ∧ i = 0
  · obtain ⟨rfl, rfl⟩ := h0
    rw [zu_self]
    rfl
  rw [zu_ne h0]
  by_cases h4 : k = 4 ∧ i = 0
  · obtain ⟨rfl, rfl⟩ := h4
    rw [zu_self]
    refine congrArg (fun f => some (kQ (cA 2) (a 4 0) 8 f)) ?_
    exact va_up_opt (c := fun j => (j : Int) < S 5 0) (d := fun j => (j : Int) < S 5 0 + 1) (f := a 10) (g := (ua a 10 n q) 10) (by omega) (ua_eq (a := a)) (fun j hj => ⟨by omega, ua_ne (a := a) hj⟩)
  rw [zu_ne h4]
  by_cases h10 : k = 10 ∧ i = n
  · obtain ⟨rfl, rfl⟩ := h10
    rw [zu_self]
    show (if (i : Int) < S 5 0 + 1 then some (ua a 10 i q 10 i, Sum.inr (0, ([.int (i32 (i : Int)), .int (i32 (zg (S 6) i x i)), .int (i32 (1 - zg (S 7) i 0 i)), .int (i32 (z3 G 10 i 0 0 10 i 0))] : List Value))) else none) = _
    rw [if_pos (by omega)]
    rw [ua_eq, zg_eq, zg_eq, z3_at, ← i32_0]
    rfl
  rw [zu_ne h10]
  refine zj_C ?_
  unfold layC
  split
  all_goals first | rfl | (rw [if_neg (by omega), if_neg (by omega)]) | skip
  · have hne : i ≠ n := fun e => h10 ⟨rfl, e⟩
    show (if (i : Int) < S 5 0 + 1 then some (ua a 10 n q 10 i, Sum.inr (0, ([.int (i32 (i : Int)), .int (i32 (zg (S 6) n x i)), .int (i32 (1 - zg (S 7) n 0 i)), .int (i32 (z3 G 10 n 0 0 10 i 0))] : List Value))) else none) = _
    by_cases hi : (i : Int) < S 5 0
    · rw [if_pos hi, if_pos (by omega)]
      rw [ua_ne hne, zg_ne hne, zg_ne hne, z3_no hne]
    · rw [if_neg hi, if_neg (by omega)]
  · show (if (i : Int) < S 19 0 then some (a 14 i, Sum.inr (4, ([.ref (ua a 10 n q 10 (S 20 i).toNat), .ref (ua a 10 n q 10 (S 21 i).toNat), .int (i32 (S 22 i))] : List Value))) else none) = _
    by_cases hi : (i : Int) < S 19 0
    · rw [if_pos hi, if_pos hi, ua_ne (h3 i hi).1, ua_ne (h3 i hi).2]
    · rw [if_neg hi, if_neg hi]
theorem cw_target {D : va_G} {B0 : Nat} {M : zL} {cA : Nat → ClassId} {a : Nat → Nat → Nat} {G : zG} {S : zS} {H0 H : Heap} {locs : List Loc} {n q q1 : Nat} {k1 x z y st : Int} (hn : S 8 0 = (n : Int)) (X : zX D B0 (zu (zu (zu (zu (zj (layC cA a G S) M) 12 n (some (q, .inr (3, [.int (i32 k1), .int (i32 x), .int (i32 z), .int (i32 (if k1 = 2 then 0 else y)), .int (i32 st), .ref q1])))) 13 n (some (kI cA q1 64 (fun _ => -1)))) 5 0 (some (kQ (cA 3) (a 5 0) 8 (va_up (fun j => opt ((j : Int) < S 8 0) (a 12 j)) n (some q))))) 0 0 (some (a 0 0, .inr (5, (cfs a S).set 7 (.int (i32 (S 8 0 + 1))))))) H0 H locs) : zX D B0 (zj (layC cA (ua (ua a 12 n q) 13 n q1) (ug G 13 n (fun _ => -1)) (zs (zs (zs (zs (zs (zs S 9 n k1) 10 n x) 11 n z) 12 n y) 13 n st) 8 0 (S 8 0 + 1))) M) H0 H locs := by
  refine X.to (fun k i => ?_)
  by_cases h0 : k = 0 ∧ i = 0
  · obtain ⟨rfl, rfl⟩ := h0
    rw [zu_self]
    rfl
  rw [zu_ne h0]
  by_cases h4 : k = 5 ∧ i = 0
  · obtain ⟨rfl, rfl⟩ := h4
    rw [zu_self]
    refine congrArg (fun f => some (kQ (cA 3) (a 5 0) 8 f)) ?_
    exact va_up_opt (c := fun j => (j : Int) < S 8 0) (d := fun j => (j : Int) < S 8 0 + 1) (f := a 12) (g := (ua (ua a 12 n q) 13 n q1) 12) (by omega) (show ua a 12 n q 12 n = q from ua_eq) (fun j hj => ⟨by omega, show ua a 12 n q 12 j = a 12 j from ua_ne hj⟩)
  rw [zu_ne h4]
  by_cases h11 : k = 13 ∧ i = n
  · obtain ⟨rfl, rfl⟩ := h11
    rw [zu_self]
    show (if (i : Int) < S 8 0 + 1 then some (kI cA (ua (ua a 12 i q) 13 i q1 13 i) 64 (ug G 13 i (fun _ => -1) 13 i)) else none) = _
    rw [if_pos (by omega), ua_eq, ug_eq]
  rw [zu_ne h11]
  by_cases h10 : k = 12 ∧ i = n
  · obtain ⟨rfl, rfl⟩ := h10
    rw [zu_self]
    show (if (i : Int) < S 8 0 + 1 then some (ua a 12 i q 12 i, Sum.inr (3, ([.int (i32 (zg (S 9) i k1 i)), .int (i32 (zg (S 10) i x i)), .int (i32 (zg (S 11) i z i)), .int (i32 (if zg (S 9) i k1 i = 2 then 0 else zg (S 12) i y i)), .int (i32 (zg (S 13) i st i)), .ref (ua (ua a 12 i q) 13 i q1 13 i)] : List Value))) else none) = _
    rw [if_pos (by omega)]
    rw [ua_eq, ua_eq, zg_eq, zg_eq, zg_eq, zg_eq, zg_eq]
  rw [zu_ne h10]
  refine zj_C ?_
  unfold layC
  split
  all_goals first | rfl | (rw [if_neg (by omega), if_neg (by omega)]) | skip
  · have hne : i ≠ n := fun e => h10 ⟨rfl, e⟩
    show (if (i : Int) < S 8 0 + 1 then some (ua a 12 n q 12 i, Sum.inr (3, ([.int (i32 (zg (S 9) n k1 i)), .int (i32 (zg (S 10) n x i)), .int (i32 (zg (S 11) n z i)), .int (i32 (if zg (S 9) n k1 i = 2 then 0 else zg (S 12) n y i)), .int (i32 (zg (S 13) n st i)), .ref (ua (ua a 12 n q) 13 n q1 13 i)] : List Value))) else none) = _
    by_cases hi : (i : Int) < S 8 0
    · rw [if_pos hi, if_pos (by omega)]
      rw [ua_ne hne, ua_ne hne, zg_ne hne, zg_ne hne, zg_ne hne, zg_ne hne, zg_ne hne]
      rfl
    · rw [if_neg hi, if_neg (by omega)]
  · have hne : i ≠ n := fun e => h11 ⟨rfl, e⟩
    show (if (i : Int) < S 8 0 + 1 then some (kI cA (ua (ua a 12 n q) 13 n q1 13 i) 64 (ug G 13 n (fun _ => -1) 13 i)) else none) = _
    by_cases hi : (i : Int) < S 8 0
    · rw [if_pos hi, if_pos (by omega), ua_ne hne, ug_ne hne]
      rw [show ua a 12 n q 13 i = a 13 i from rfl]
    · rw [if_neg hi, if_neg (by omega)]
theorem cw_tell {D : va_G} {B0 : Nat} {M : zL} {cA : Nat → ClassId} {a : Nat → Nat → Nat} {G : zG} {S : zS} {H0 H : Heap} {locs : List Loc} {n q : Nat} {r1 r2 : Nat} {t1 : Int} (hn : S 19 0 = (n : Int)) (X : zX D B0 (zu (zu (zu (zj (layC cA a G S) M) 14 n (some (q, .inr (4, [.ref (a 10 r1), .ref (a 10 r2), .int (i32 t1)])))) 6 0 (some (kQ (cA 4) (a 6 0) 6 (va_up (fun j => opt ((j : Int) < S 19 0) (a 14 j)) n (some q))))) 0 0 (some (a 0 0, .inr (5, (cfs a S).set 8 (.int (i32 (S 19 0 + 1))))))) H0 H locs) : zX D B0 (zj (layC cA (ua a 14 n q) (G) (zs (zs (zs (zs S 20 n (r1 : Int)) 21 n (r2 : Int)) 22 n t1) 19 0 (S 19 0 + 1))) M) H0 H locs := by
  refine X.to (fun k i => ?_)
  by_cases h0 : k = 0 ∧ i = 0
  · obtain ⟨rfl, rfl⟩ := h0
    rw [zu_self]
    rfl
  rw [zu_ne h0]
  by_cases h4 : k = 6 ∧ i = 0
  · obtain ⟨rfl, rfl⟩ := h4
    rw [zu_self]
    refine congrArg (fun f => some (kQ (cA 4) (a 6 0) 6 f)) ?_
    exact va_up_opt (c := fun j => (j : Int) < S 19 0) (d := fun j => (j : Int) < S 19 0 + 1) (f := a 14) (g := (ua a 14 n q) 14) (by omega) (ua_eq (a := a)) (fun j hj => ⟨by omega, ua_ne (a := a) hj⟩)
  rw [zu_ne h4]
  by_cases h10 : k = 14 ∧ i = n
  · obtain ⟨rfl, rfl⟩ := h10
    rw [zu_self]
    show (if (i : Int) < S 19 0 + 1 then some (ua a 14 i q 14 i, Sum.inr (4, ([.ref (a 10 (zg (S 20) i (r1 : Int) i).toNat), .ref (a 10 (zg (S 21) i (r2 : Int) i).toNat), .int (i32 (zg (S 22) i t1 i))] : List Value))) else none) = _
    rw [if_pos (by omega)]
    rw [ua_eq, zg_eq, zg_eq, zg_eq, Int.toNat_natCast, Int.toNat_natCast]
  rw [zu_ne h10]
  refine zj_C ?_
  unfold layC
  split
  all_goals first | rfl | (rw [if_neg (by omega), if_neg (by omega)]) | skip
  · have hne : i ≠ n := fun e => h10 ⟨rfl, e⟩
    show (if (i : Int) < S 19 0 + 1 then some (ua a 14 n q 14 i, Sum.inr (4, ([.ref (a 10 (zg (S 20) n (r1 : Int) i).toNat), .ref (a 10 (zg (S 21) n (r2 : Int) i).toNat), .int (i32 (zg (S 22) n t1 i))] : List Value))) else none) = _
    by_cases hi : (i : Int) < S 19 0
    · rw [if_pos hi, if_pos (by omega)]
      rw [ua_ne hne, zg_ne hne, zg_ne hne, zg_ne hne]
    · rw [if_neg hi, if_neg (by omega)]
theorem cw_drop {D : va_G} {B0 : Nat} {M : zL} {cA : Nat → ClassId} {a : Nat → Nat → Nat} {G : zG} {S : zS} {H0 H : Heap} {locs : List Loc} {n : Nat} (hn : S 8 0 = ((n + 1 : Nat) : Int)) (X : zX D B0 (zu (zu (zj (layC cA a G S) M) 0 0 (some (a 0 0, .inr (5, (cfs a S).set 7 (.int (i32 (S 8 0 - 1))))))) 5 0 (some (kQ (cA 3) (a 5 0) 8 (va_up (fun j => opt ((j : Int) < S 8 0) (a 12 j)) n none)))) H0 H locs) : zX D B0 (zj (layC cA a G (zs S 8 0 (S 8 0 - 1))) M) H0 H locs := by
  refine X.less (fun k i y hy => ?_)
  by_cases h5 : k = 5 ∧ i = 0
  · obtain ⟨rfl, rfl⟩ := h5
    rw [zu_self, ← hy]
    refine (congrArg (fun f => some (kQ (cA 3) (a 5 0) 8 f)) ?_).symm
    exact va_up_non (c := fun j => (j : Int) < S 8 0) (d := fun j => (j : Int) < S 8 0 - 1) (f := a 12) (by omega) (fun j hj => by omega)
  rw [zu_ne h5]
  by_cases h0 : k = 0 ∧ i = 0
  · obtain ⟨rfl, rfl⟩ := h0
    rw [zu_self]
    exact hy
  rw [zu_ne h0, ← hy]
  by_cases hk : k = 12 ∨ k = 13
  · rcases hk with rfl | rfl
    · have hy : (if (i : Int) < S 8 0 - 1 then some (a 12 i, Sum.inr (3, tfs a S i)) else none) = some y := hy
      by_cases hi : (i : Int) < S 8 0 - 1
      · show (if (i : Int) < S 8 0 then some (a 12 i, Sum.inr (3, tfs a S i)) else none) = (if (i : Int) < S 8 0 - 1 then some (a 12 i, Sum.inr (3, tfs a S i)) else none)
        rw [if_pos hi, if_pos (by omega)]
      · rw [if_neg hi] at hy
        cases hy
    · have hy : (if (i : Int) < S 8 0 - 1 then some (kI cA (a 13 i) 64 (G 13 i)) else none) = some y := hy
      by_cases hi : (i : Int) < S 8 0 - 1
      · show (if (i : Int) < S 8 0 then some (kI cA (a 13 i) 64 (G 13 i)) else none) = (if (i : Int) < S 8 0 - 1 then some (kI cA (a 13 i) 64 (G 13 i)) else none)
        rw [if_pos hi, if_pos (by omega)]
      · rw [if_neg hi] at hy
        cases hy
  · refine (zj_C ?_)
    unfold layC
    split
    all_goals first | rfl | (exfalso; omega) | (rw [if_neg (by omega), if_neg (by omega)])
def fgt (S : zS) (a : Nat → Nat → Nat) (n : Nat) : Nat → Option Nat := fun j => if j < n then none else opt ((j : Int) < S 19 0) (a 14 j)
theorem fgt_S {S : zS} {a : Nat → Nat → Nat} {n : Nat} : va_up (fgt S a n) n none = fgt S a (n + 1) := by
  funext j
  unfold va_up fgt
  by_cases h : j = n
  · rw [if_pos h, if_pos (by omega)]
  · rw [if_neg h]
    by_cases h2 : j < n
    · rw [if_pos h2, if_pos (by omega)]
    · rw [if_neg h2, if_neg (by omega)]
theorem cw_forget {D : va_G} {B0 : Nat} {M : zL} {cA : Nat → ClassId} {a : Nat → Nat → Nat} {G : zG} {S : zS} {H0 H : Heap} {locs : List Loc} (hn : S 19 0 ≤ 6) (X : zX D B0 (zu (zu (zj (layC cA a G S) M) 6 0 (some (kQ (cA 4) (a 6 0) 6 (fgt S a 6)))) 0 0 (some (a 0 0, .inr (5, (cfs a S).set 8 (.int (i32 0)))))) H0 H locs) : zX D B0 (zj (layC cA a G (zs S 19 0 0)) M) H0 H locs := by
  refine X.less (fun k i y hy => ?_)
  by_cases h0 : k = 0 ∧ i = 0
  · obtain ⟨rfl, rfl⟩ := h0
    rw [zu_self]
    exact hy
  rw [zu_ne h0]
  by_cases h5 : k = 6 ∧ i = 0
  · obtain ⟨rfl, rfl⟩ := h5
    rw [zu_self, ← hy]
    refine (congrArg (fun f => some (kQ (cA 4) (a 6 0) 6 f)) ?_).symm
    funext j
    show opt ((j : Int) < 0) (a 14 j) = fgt S a 6 j
    unfold fgt opt
    rw [if_neg (by omega)]
    split
    · rfl
    · rw [if_neg (by omega)]
  rw [zu_ne h5, ← hy]
  by_cases hk : k = 14
  · subst hk
    have hy : (if (i : Int) < 0 then some (a 14 i, Sum.inr (4, ofs a S i)) else none) = some y := hy
    rw [if_neg (by omega)] at hy
    cases hy
  · refine (zj_C ?_)
    unfold layC
    split
    all_goals first | rfl | (exfalso; omega) | (rw [if_neg (by omega), if_neg (by omega)])
theorem cw_tear {D : va_G} {B0 : Nat} {M : zL} {cA : Nat → ClassId} {a : Nat → Nat → Nat} {G : zG} {S : zS} {H0 H : Heap} {locs : List Loc} {n : Nat} (hn : n < 6) (X : zX D B0 (zu (zj (layC cA a G S) M) 7 0 (some (kQ (cA 5) (a 7 0) 6 (va_up (fun j => opt (0 ≤ S 23 j) (a 15 j)) n none)))) H0 H locs) : zX D B0 (zj (layC cA a G (zs S 23 n (-1))) M) H0 H locs := by
  refine X.less (fun k i y hy => ?_)
  by_cases h5 : k = 7 ∧ i = 0
  · obtain ⟨rfl, rfl⟩ := h5
    rw [zu_self, ← hy]
    refine (congrArg (fun f => some (kQ (cA 5) (a 7 0) 6 f)) ?_).symm
    exact va_up_non (c := fun j => 0 ≤ S 23 j) (d := fun j => 0 ≤ zg (S 23) n (-1) j) (f := a 15) (by rw [zg_eq]; decide) (fun j hj => by rw [zg_ne hj])
  rw [zu_ne h5, ← hy]
  by_cases hk : k = 15 ∨ k = 16
  · rcases hk with rfl | rfl
    · have hy : (if i < 6 ∧ 0 ≤ zg (S 23) n (-1) i then some (a 15 i, Sum.inr (2, sfs a S i)) else none) = some y := hy
      show (if i < 6 ∧ 0 ≤ S 23 i then some (a 15 i, Sum.inr (2, sfs a S i)) else none) = (if i < 6 ∧ 0 ≤ zg (S 23) n (-1) i then some (a 15 i, Sum.inr (2, sfs a S i)) else none)
      by_cases hi : i = n
      · subst hi
        rw [zg_eq, if_neg (by omega)] at hy
        cases hy
      · rw [zg_ne hi]
    · have hy : (if i < 6 ∧ 0 ≤ zg (S 23) n (-1) i then some (kI cA (a 16 i) (zg (S 23) n (-1) i).toNat (fun j => S 25 (64 * i + j))) else none) = some y := hy
      show (if i < 6 ∧ 0 ≤ S 23 i then some (kI cA (a 16 i) (S 23 i).toNat (fun j => S 25 (64 * i + j))) else none) = (if i < 6 ∧ 0 ≤ zg (S 23) n (-1) i then some (kI cA (a 16 i) (zg (S 23) n (-1) i).toNat (fun j => S 25 (64 * i + j))) else none)
      by_cases hi : i = n
      · subst hi
        rw [zg_eq, if_neg (by omega)] at hy
        cases hy
      · rw [zg_ne hi]
  · refine (zj_C ?_)
    unfold layC
    split
    all_goals first | rfl | (exfalso; omega) | (rw [if_neg (by omega), if_neg (by omega)])
theorem zro_25 {T : zS} {q : Nat} : ∀ (n m : Nat), zro T q n 25 m = if 64 * q ≤ m ∧ m < 64 * q + n then 0 else T 25 m := by
  intro n
  induction n with
  | zero =>
    intro m
    rw [if_neg (by omega)]
    rfl
  | succ n ih =>
    intro m
    unfold zro
    rw [zs_eq]
    by_cases h : m = 64 * q + n
    · subst h
      rw [zg_eq, if_pos (by omega)]
    · rw [zg_ne h, ih m]
      by_cases h2 : 64 * q ≤ m ∧ m < 64 * q + n
      · rw [if_pos h2, if_pos (by omega)]
      · rw [if_neg h2, if_neg (by omega)]
theorem cw_sheet {D : va_G} {B0 : Nat} {M : zL} {cA : Nat → ClassId} {a : Nat → Nat → Nat} {G : zG} {S : zS} {H0 H : Heap} {locs : List Loc} {n r r1 nn : Nat} {k1 : Int} (hn : n < 6) (hnn : nn ≤ 64) (h64 : ∀ i : Nat, i < 6 → S 23 i ≤ 64) (X : zX D B0 (zu (zu (zu (zj (layC cA a G S) M) 15 n (some (r, .inr (2, [.int (i32 k1), .ref r1])))) 16 n (some (kI cA r1 nn (fun _ => 0)))) 7 0 (some (kQ (cA 5) (a 7 0) 6 (va_up (fun j => opt (0 ≤ S 23 j) (a 15 j)) n (some r))))) H0 H locs) : zX D B0 (zj (layC cA (ua (ua a 15 n r) 16 n r1) G (zro (zs (zs S 23 n (nn : Int)) 24 n k1) n nn)) M) H0 H locs := by
  have e23 : zro (zs (zs S 23 n (nn : Int)) 24 n k1) n nn 23 = zg (S 23) n (nn : Int) := by
    rw [zro_k (by decide)]
    rfl
  have e24 : zro (zs (zs S 23 n (nn : Int)) 24 n k1) n nn 24 = zg (S 24) n k1 := by
    rw [zro_k (by decide)]
    rfl
  have e25 : ∀ m, zro (zs (zs S 23 n (nn : Int)) 24 n k1) n nn 25 m = if 64 * n ≤ m ∧ m < 64 * n + nn then 0 else S 25 m := fun m => zro_25 nn m
  have eo : ∀ k, k ≠ 23 → k ≠ 24 → k ≠ 25 → zro (zs (zs S 23 n (nn : Int)) 24 n k1) n nn k = S k := fun k h1 h2 h3 => by rw [zro_k h3, zs_ne h2, zs_ne h1]
  generalize zro (zs (zs S 23 n (nn : Int)) 24 n k1) n nn = T at e23 e24 e25 eo ⊢
  refine X.via (fun k i y hy => ?_)
  by_cases h7 : k = 7 ∧ i = 0
  · obtain ⟨rfl, rfl⟩ := h7
    refine ⟨y, ?_, rfl, fun h => h⟩
    rw [zu_self, ← hy]
    refine (congrArg (fun f => some (kQ (cA 5) (a 7 0) 6 f)) ?_).symm
    refine va_up_opt (c := fun j => 0 ≤ S 23 j) (d := fun j => 0 ≤ T 23 j) (f := a 15) (g := ua (ua a 15 n r) 16 n r1 15) (by rw [e23, zg_eq]; omega) (show ua a 15 n r 15 n = r from ua_eq) (fun j hj => ⟨by rw [e23, zg_ne hj], show ua a 15 n r 15 j = a 15 j from ua_ne hj⟩)
  rw [zu_ne h7]
  by_cases h16 : k = 16
  · subst h16
    have hy : (if i < 6 ∧ 0 ≤ T 23 i then some (kI cA (ua (ua a 15 n r) 16 n r1 16 i) (T 23 i).toNat (fun j => T 25 (64 * i + j))) else none) = some y := hy
    by_cases hi : i = n
    · subst hi
      rw [e23, zg_eq, if_pos (by omega), ua_eq, Int.toNat_natCast] at hy
      cases hy
      refine ⟨_, zu_self _ _ _ _, rfl, fun hv => zI_at (fun j hj => ?_) hv⟩
      rw [e25, if_pos (by omega)]
    · rw [e23, zg_ne hi, ua_ne hi] at hy
      have hy : (if i < 6 ∧ 0 ≤ S 23 i then some (kI cA (a 16 i) (S 23 i).toNat (fun j => T 25 (64 * i + j))) else none) = some y := hy
      by_cases hc : i < 6 ∧ 0 ≤ S 23 i
      · rw [if_pos hc] at hy
        cases hy
        refine ⟨_, (zu_ne (by omega)).trans ((zu_ne (by omega)).trans (lC_16 M cA a G S i hc)), rfl, fun hv => zI_at (fun j hj => ?_) hv⟩
        have := h64 i hc.1
        rw [e25, if_neg (by omega)]
      · rw [if_neg hc] at hy
        cases hy
  · refine ⟨y, ?_, rfl, fun h => h⟩
    rw [zu_ne (fun h => h16 h.1)]
    by_cases h15 : k = 15
    · subst h15
      have hy : (if i < 6 ∧ 0 ≤ T 23 i then some (ua a 15 n r 15 i, Sum.inr (2, ([.int (i32 (T 24 i)), .ref (ua (ua a 15 n r) 16 n r1 16 i)] : List Value))) else none) = some y := hy
      by_cases hi : i = n
      · subst hi
        rw [e23, zg_eq, if_pos (by omega), ua_eq, ua_eq, e24, zg_eq] at hy
        rw [zu_self]
        exact hy
      · rw [zu_ne (fun h => hi h.2), ← hy, e23, zg_ne hi, ua_ne hi, ua_ne hi, e24, zg_ne hi]
        rfl
    · rw [zu_ne (fun h => h15 h.1), ← hy]
      refine zj_C ?_
      unfold layC
      split
      all_goals first | (exfalso; omega) | skip
      all_goals (try simp only [cfs, yfs, efs, tfs, ofs, eo 1 (by decide) (by decide) (by decide), eo 2 (by decide) (by decide) (by decide), eo 4 (by decide) (by decide) (by decide), eo 5 (by decide) (by decide) (by decide), eo 6 (by decide) (by decide) (by decide), eo 7 (by decide) (by decide) (by decide), eo 8 (by decide) (by decide) (by decide), eo 9 (by decide) (by decide) (by decide), eo 10 (by decide) (by decide) (by decide), eo 11 (by decide) (by decide) (by decide), eo 12 (by decide) (by decide) (by decide), eo 13 (by decide) (by decide) (by decide), eo 17 (by decide) (by decide) (by decide), eo 19 (by decide) (by decide) (by decide), eo 20 (by decide) (by decide) (by decide), eo 21 (by decide) (by decide) (by decide), eo 22 (by decide) (by decide) (by decide), eo 27 (by decide) (by decide) (by decide)])
      all_goals first | rfl | (rw [if_neg (by omega), if_neg (by omega)])
theorem ET_cong {S T : zS} {q r t : Nat} (h1 : T 1 0 = S 1 0) (h2 : T 2 0 = S 2 0) (h3 : T 3 0 = S 3 0) (h4 : T 4 0 = S 4 0) (hq : T 6 q = S 6 q) (hr : T 6 r = S 6 r) (h9 : T 9 t = S 9 t) (h10 : T 10 t = S 10 t) (h11 : T 11 t = S 11 t) (h12 : T 12 t = S 12 t) : ET T q r t = ET S q r t := by
  unfold ET LST
  have hd : dep T t = dep S t := by
    unfold dep
    rw [h9, h1, h2, h12]
  have hf : fd T q r (T 10 t).toNat (dep T t).toNat = fd S q r (S 10 t).toNat (dep S t).toNat := by
    funext d
    unfold fd
    rw [hd, h10, (TM_cong h1 h3 h4 hq).1, (TM_cong h1 h3 h4 hr).1]
  rw [hf, h10, h11]
theorem CG_25 {S T : zS} {G : zG} (h : ∀ k : Nat, k ≠ 25 → T k = S k) (hG : CG S G) : CG T G := by
  have e : T = fun k => bif Nat.beq k 25 then T 25 else S k := by
    funext k
    by_cases hk : k = 25
    · subst hk
      rfl
    · rw [h k hk, show Nat.beq k 25 = false by
        cases hb : Nat.beq k 25 with
        | false => rfl
        | true => exact absurd (Nat.eq_of_beq_eq_true hb) hk]
      rfl
  rw [e]
  exact hG
set_option maxRecDepth 100000 in
theorem CG_element {S : zS} {G : zG} {n : Nat} {x : Int} (hn : S 5 0 = (n : Int)) (hG : CG S G) : CG (zs (zs (zs (zs S 6 n x) 7 n 0) 5 0 (S 5 0 + 1)) 17 0 0) (z3 G 10 n 0 0) := by
  obtain ⟨g1, g2, g3, g4, g5, g6, g7⟩ := hG
  refine ⟨g1, g2, g3, g4, fun t ht q r hq hr => ?_, fun h => absurd (show (0 : Int) = 1 from h) (by decide), fun i => ?_⟩
  · rcases g5 t ht q r hq hr with a1 | ⟨a1, a2, a3⟩
    · exact Or.inl a1
    · refine Or.inr ⟨(by show (q : Int) < S 5 0 + 1; omega), (by show (r : Int) < S 5 0 + 1; omega), ?_⟩
      show G 13 t (8 * q + r) = _
      rw [a3]
      exact (ET_cong (S := S) (T := zs (zs (zs (zs S 6 n x) 7 n 0) 5 0 (S 5 0 + 1)) 17 0 0) (q := q) (r := r) (t := t) rfl rfl rfl rfl (show zg (S 6) n x q = S 6 q from zg_ne (by omega)) (show zg (S 6) n x r = S 6 r from zg_ne (by omega)) rfl rfl rfl rfl).symm
  · show -5000 ≤ z3 G 10 n 0 0 10 i 0 ∧ z3 G 10 n 0 0 10 i 0 ≤ 5000
    by_cases h : i = n
    · subst h
      rw [z3_at]
      omega
    · rw [z3_no h]
      exact g7 i
set_option maxRecDepth 100000 in
theorem CG_target {S : zS} {G : zG} {n : Nat} {k1 x z y st : Int} (hn : S 8 0 = (n : Int)) (hG : CG S G) : CG (zs (zs (zs (zs (zs (zs S 9 n k1) 10 n x) 11 n z) 12 n y) 13 n st) 8 0 (S 8 0 + 1)) (ug G 13 n (fun _ => -1)) := by
  obtain ⟨g1, g2, g3, g4, g5, g6, g7⟩ := hG
  refine ⟨g1, g2, g3, g4, fun t ht q r hq hr => ?_, g6, g7⟩
  have ht : (t : Int) < S 8 0 + 1 := ht
  by_cases h : t = n
  · subst h
    rw [ug_eq]
    exact Or.inl rfl
  · rw [ug_ne h]
    rcases g5 t (by omega) q r hq hr with a1 | ⟨a1, a2, a3⟩
    · exact Or.inl a1
    · refine Or.inr ⟨a1, a2, ?_⟩
      rw [a3]
      exact (ET_cong (S := S) (T := zs (zs (zs (zs (zs (zs S 9 n k1) 10 n x) 11 n z) 12 n y) 13 n st) 8 0 (S 8 0 + 1)) (q := q) (r := r) (t := t) rfl rfl rfl rfl rfl rfl (show zg (S 9) n k1 t = S 9 t from zg_ne h) (show zg (S 10) n x t = S 10 t from zg_ne h) (show zg (S 11) n z t = S 11 t from zg_ne h) (show zg (S 12) n y t = S 12 t from zg_ne h)).symm
theorem CG_drop {S : zS} {G : zG} (hG : CG S G) : CG (zs S 8 0 (S 8 0 - 1)) G := by
  obtain ⟨g1, g2, g3, g4, g5, g6, g7⟩ := hG
  exact ⟨g1, g2, g3, g4, fun t ht => g5 t (by have ht : (t : Int) < S 8 0 - 1 := ht; omega), g6, g7⟩
theorem CG_lose {S : zS} {G : zG} {q : Nat} {z : Int} (hG : CG S G) : CG (zs (zs S 7 q z) 17 0 0) G := by
  obtain ⟨g1, g2, g3, g4, g5, g6, g7⟩ := hG
  exact ⟨g1, g2, g3, g4, g5, fun h => absurd (show (0 : Int) = 1 from h) (by decide), g7⟩
