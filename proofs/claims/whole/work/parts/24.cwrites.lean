theorem cw_times {D : va_G} {B0 : Nat} {M : zL} {cA : Nat → ClassId} {a : Nat → Nat → Nat} {G : zG} {S : zS} {H0 H : Heap} {locs : List Loc} {x : Int} {q j : Nat} (hi : (q : Int) < S 5 0) (X : zX D B0 (zu (zj (layC cA a G S) M) 11 q (some (a 11 q, .inl (cA 0, 1581, .inl (fun j' => i32 (zg (G 11 q) j x j')))))) H0 H locs) : zX D B0 (zj (layC cA a (z3 G 11 q j x) S) M) H0 H locs := by
  refine X.to (zu_to ?_ (fun k i hh => zj_C ?_))
  · show (if (q : Int) < S 5 0 then some (kI cA (a 11 q) 1581 (z3 G 11 q j x 11 q)) else none) = _
    rw [if_pos hi, show z3 G 11 q j x 11 q = zg (G 11 q) j x by rw [z3_eq]; exact if_pos rfl]
  · unfold layC
    split <;> try rfl
    have hne : i ≠ q := fun e => hh ⟨rfl, e⟩
    rw [show z3 G 11 q j x 11 i = G 11 i by rw [z3_eq]; exact if_neg hne]
theorem cw_etimes {D : va_G} {B0 : Nat} {M : zL} {cA : Nat → ClassId} {a : Nat → Nat → Nat} {G : zG} {S : zS} {H0 H : Heap} {locs : List Loc} {x : Int} {q j : Nat} (hi : (q : Int) < S 8 0) (X : zX D B0 (zu (zj (layC cA a G S) M) 13 q (some (a 13 q, .inl (cA 0, 64, .inl (fun j' => i32 (zg (G 13 q) j x j')))))) H0 H locs) : zX D B0 (zj (layC cA a (z3 G 13 q j x) S) M) H0 H locs := by
  refine X.to (zu_to ?_ (fun k i hh => zj_C ?_))
  · show (if (q : Int) < S 8 0 then some (kI cA (a 13 q) 64 (z3 G 13 q j x 13 q)) else none) = _
    rw [if_pos hi, show z3 G 13 q j x 13 q = zg (G 13 q) j x by rw [z3_eq]; exact if_pos rfl]
  · unfold layC
    split <;> try rfl
    have hne : i ≠ q := fun e => hh ⟨rfl, e⟩
    rw [show z3 G 13 q j x 13 i = G 13 i by rw [z3_eq]; exact if_neg hne]
theorem cw_wait {D : va_G} {B0 : Nat} {M : zL} {cA : Nat → ClassId} {a : Nat → Nat → Nat} {G : zG} {S : zS} {H0 H : Heap} {locs : List Loc} {x : Int} {q : Nat} (hi : (q : Int) < S 5 0) (X : zX D B0 (zu (zj (layC cA a G S) M) 10 q (some (a 10 q, .inr (0, (efs a G S q).set 3 (.int (i32 x)))))) H0 H locs) : zX D B0 (zj (layC cA a (z3 G 10 q 0 x) S) M) H0 H locs := by
  refine X.to (zu_to ?_ (fun k i hh => zj_C ?_))
  · show (if (q : Int) < S 5 0 then some (a 10 q, Sum.inr (0, efs a (z3 G 10 q 0 x) S q)) else none) = _
    rw [if_pos hi]
    have e1 : z3 G 10 q 0 x 10 q 0 = x := by rw [z3_eq]; simp [zg]
    simp only [efs, e1]
    rfl
  · unfold layC
    split <;> try rfl
    have hne : i ≠ q := fun e => hh ⟨rfl, e⟩
    have e1 : z3 G 10 q 0 x 10 i 0 = G 10 i 0 := by rw [z3_eq]; simp [hne]
    simp only [efs, e1]
theorem cw_works {D : va_G} {B0 : Nat} {M : zL} {cA : Nat → ClassId} {a : Nat → Nat → Nat} {G : zG} {S : zS} {H0 H : Heap} {locs : List Loc} {x : Int} {q : Nat} (hi : (q : Int) < S 5 0) (X : zX D B0 (zu (zj (layC cA a G S) M) 10 q (some (a 10 q, .inr (0, (efs a G S q).set 2 (.int (i32 (1 - x))))))) H0 H locs) : zX D B0 (zj (layC cA a G (zs S 7 q x)) M) H0 H locs := by
  refine X.to (zu_to ?_ (fun k i hh => zj_C ?_))
  · show (if (q : Int) < S 5 0 then some (a 10 q, Sum.inr (0, efs a G (zs S 7 q x) q)) else none) = _
    rw [if_pos hi]
    have e1 : zs S 7 q x 7 q = x := by rw [zs_eq, zg_eq]
    simp only [efs, e1]
    rfl
  · unfold layC
    split <;> try rfl
    have hne : i ≠ q := fun e => hh ⟨rfl, e⟩
    have e1 : zs S 7 q x 7 i = S 7 i := by rw [zs_eq, zg_ne hne]
    show (if (i : Int) < S 5 0 then some (a 10 i, Sum.inr (0, efs a G (zs S 7 q x) i)) else none) = _
    simp only [efs, e1]
    rfl
