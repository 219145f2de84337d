/-! a state: the reference's numbers by the slot of their field; a field that is one number is place 0 -/
abbrev zS : Type := Nat → Nat → Int
def zs (S : zS) (k j : Nat) (z : Int) : zS := fun k' => bif Nat.beq k' k then zg (S k) j z else S k'
abbrev zG : Type := Nat → Nat → Nat → Int
def z3 (G : zG) (k i j : Nat) (z : Int) : zG := fun k' => bif Nat.beq k' k then (fun i' => if i' = i then zg (G k i) j z else G k i') else G k'
/-- two worlds, the first at the places below 32 -/
def zj (C M : zL) : zL := fun k i => bif Nat.blt k 32 then C k i else M k i
abbrev kI (cA : Nat → ClassId) (a n : Nat) (g : Nat → Int) : Nat × va_E := (a, .inl (cA 0, n, .inl (fun j => i32 (g j))))
abbrev kZ (cA : Nat → ClassId) (a n : Nat) (g : Nat → Int) : Nat × va_E := (a, .inl (cA 1, n, .inl (fun j => i32 (g j))))
abbrev kQ (cl : ClassId) (a n : Nat) (f : Nat → Option Nat) : Nat × va_E := (a, .inl (cl, n, .inr (.inr (.inr (.inr f)))))
/-- the reference's fields -/
abbrev mfs (am : Nat → Nat) (S U : zS) : List Value := [.int (i32 (U 0 0)), .int (i32 (S 1 0)), .int (i32 (S 2 0)), .int (i32 (S 3 0)), .int (i32 (S 4 0)), .int (i32 (S 5 0)), .ref (am 6), .ref (am 7), .int (i32 (S 8 0)), .ref (am 9), .ref (am 10), .ref (am 11), .ref (am 12), .ref (am 13), .ref (am 14), .ref (am 15), .ref (am 16), .int (i32 (S 17 0)), .ref (am 18), .int (i32 (S 19 0)), .ref (am 20), .ref (am 21), .ref (am 22), .ref (am 23), .ref (am 24), .ref (am 25), .ref (am 26), .int (i32 (S 27 0))]
def layM (cA : Nat → ClassId) (am : Nat → Nat) (S U : zS) : zL := fun k i => if i = 0 then (match k with
  | 32 => some (am 0, .inr (6, mfs am S U))
  | 38 => some (kI cA (am 6) 8 (S 6))
  | 39 => some (kZ cA (am 7) 8 (S 7))
  | 41 => some (kI cA (am 9) 8 (S 9))
  | 42 => some (kI cA (am 10) 8 (S 10))
  | 43 => some (kI cA (am 11) 8 (S 11))
  | 44 => some (kI cA (am 12) 8 (S 12))
  | 45 => some (kI cA (am 13) 8 (S 13))
  | 46 => some (kI cA (am 14) 20808 (U 14))
  | 47 => some (kI cA (am 15) 20808 (U 15))
  | 48 => some (kZ cA (am 16) 408 (U 16))
  | 50 => some (kI cA (am 18) 8 (S 18))
  | 52 => some (kI cA (am 20) 6 (S 20))
  | 53 => some (kI cA (am 21) 6 (S 21))
  | 54 => some (kI cA (am 22) 6 (S 22))
  | 55 => some (kI cA (am 23) 6 (S 23))
  | 56 => some (kI cA (am 24) 6 (S 24))
  | 57 => some (kI cA (am 25) 384 (S 25))
  | 58 => some (kI cA (am 26) 64 (U 26))
  | _ => none) else none
theorem lM_0 (C : zL) (cA : Nat → ClassId) (am : Nat → Nat) (S U : zS) : zj C (layM cA am S U) 32 0 = some (am 0, .inr (6, mfs am S U)) := rfl
theorem lM_6 (C : zL) (cA : Nat → ClassId) (am : Nat → Nat) (S U : zS) : zj C (layM cA am S U) 38 0 = some (kI cA (am 6) 8 (S 6)) := rfl
theorem lM_7 (C : zL) (cA : Nat → ClassId) (am : Nat → Nat) (S U : zS) : zj C (layM cA am S U) 39 0 = some (kZ cA (am 7) 8 (S 7)) := rfl
theorem lM_9 (C : zL) (cA : Nat → ClassId) (am : Nat → Nat) (S U : zS) : zj C (layM cA am S U) 41 0 = some (kI cA (am 9) 8 (S 9)) := rfl
theorem lM_10 (C : zL) (cA : Nat → ClassId) (am : Nat → Nat) (S U : zS) : zj C (layM cA am S U) 42 0 = some (kI cA (am 10) 8 (S 10)) := rfl
theorem lM_11 (C : zL) (cA : Nat → ClassId) (am : Nat → Nat) (S U : zS) : zj C (layM cA am S U) 43 0 = some (kI cA (am 11) 8 (S 11)) := rfl
theorem lM_12 (C : zL) (cA : Nat → ClassId) (am : Nat → Nat) (S U : zS) : zj C (layM cA am S U) 44 0 = some (kI cA (am 12) 8 (S 12)) := rfl
theorem lM_13 (C : zL) (cA : Nat → ClassId) (am : Nat → Nat) (S U : zS) : zj C (layM cA am S U) 45 0 = some (kI cA (am 13) 8 (S 13)) := rfl
theorem lM_14 (C : zL) (cA : Nat → ClassId) (am : Nat → Nat) (S U : zS) : zj C (layM cA am S U) 46 0 = some (kI cA (am 14) 20808 (U 14)) := rfl
theorem lM_15 (C : zL) (cA : Nat → ClassId) (am : Nat → Nat) (S U : zS) : zj C (layM cA am S U) 47 0 = some (kI cA (am 15) 20808 (U 15)) := rfl
theorem lM_16 (C : zL) (cA : Nat → ClassId) (am : Nat → Nat) (S U : zS) : zj C (layM cA am S U) 48 0 = some (kZ cA (am 16) 408 (U 16)) := rfl
theorem lM_18 (C : zL) (cA : Nat → ClassId) (am : Nat → Nat) (S U : zS) : zj C (layM cA am S U) 50 0 = some (kI cA (am 18) 8 (S 18)) := rfl
theorem lM_20 (C : zL) (cA : Nat → ClassId) (am : Nat → Nat) (S U : zS) : zj C (layM cA am S U) 52 0 = some (kI cA (am 20) 6 (S 20)) := rfl
theorem lM_21 (C : zL) (cA : Nat → ClassId) (am : Nat → Nat) (S U : zS) : zj C (layM cA am S U) 53 0 = some (kI cA (am 21) 6 (S 21)) := rfl
theorem lM_22 (C : zL) (cA : Nat → ClassId) (am : Nat → Nat) (S U : zS) : zj C (layM cA am S U) 54 0 = some (kI cA (am 22) 6 (S 22)) := rfl
theorem lM_23 (C : zL) (cA : Nat → ClassId) (am : Nat → Nat) (S U : zS) : zj C (layM cA am S U) 55 0 = some (kI cA (am 23) 6 (S 23)) := rfl
theorem lM_24 (C : zL) (cA : Nat → ClassId) (am : Nat → Nat) (S U : zS) : zj C (layM cA am S U) 56 0 = some (kI cA (am 24) 6 (S 24)) := rfl
theorem lM_25 (C : zL) (cA : Nat → ClassId) (am : Nat → Nat) (S U : zS) : zj C (layM cA am S U) 57 0 = some (kI cA (am 25) 384 (S 25)) := rfl
theorem lM_26 (C : zL) (cA : Nat → ClassId) (am : Nat → Nat) (S U : zS) : zj C (layM cA am S U) 58 0 = some (kI cA (am 26) 64 (U 26)) := rfl
theorem zu_to {L L' : zL} {k i : Nat} {q : Option (Nat × va_E)} (h1 : L' k i = q) (h2 : ∀ k' i', ¬ (k' = k ∧ i' = i) → L' k' i' = L k' i') (k' i' : Nat) : L' k' i' = zu L k i q k' i' := by
  by_cases h : k' = k ∧ i' = i
  · obtain ⟨rfl, rfl⟩ := h
    rw [zu_self]
    exact h1
  · rw [zu_ne h]
    exact h2 k' i' h
theorem zj_M {C M M' : zL} {k i : Nat} (h : M' k i = M k i) : zj C M' k i = zj C M k i := by
  unfold zj
  rw [h]
theorem zj_C {C C' M : zL} {k i : Nat} (h : C' k i = C k i) : zj C' M k i = zj C M k i := by
  unfold zj
  rw [h]
theorem mp_0 {D : va_G} {B0 : Nat} {C : zL} {cA : Nat → ClassId} {am : Nat → Nat} {S U : zS} {H0 H : Heap} {locs : List Loc} {x : Int} (X : zX D B0 (zu (zj C (layM cA am S U)) 32 0 (some (am 0, .inr (6, (mfs am S U).set 0 (.int (i32 x)))))) H0 H locs) : zX D B0 (zj C (layM cA am S (zs U 0 0 x))) H0 H locs := by
  refine X.to (zu_to rfl (fun k i h => zj_M ?_))
  unfold layM
  by_cases hi : i = 0
  · rw [if_pos hi, if_pos hi]
    split <;> first | rfl | exact absurd ⟨rfl, hi⟩ h
  · rw [if_neg hi, if_neg hi]
theorem mp_1 {D : va_G} {B0 : Nat} {C : zL} {cA : Nat → ClassId} {am : Nat → Nat} {S U : zS} {H0 H : Heap} {locs : List Loc} {x : Int} (X : zX D B0 (zu (zj C (layM cA am S U)) 32 0 (some (am 0, .inr (6, (mfs am S U).set 1 (.int (i32 x)))))) H0 H locs) : zX D B0 (zj C (layM cA am (zs S 1 0 x) U)) H0 H locs := by
  refine X.to (zu_to rfl (fun k i h => zj_M ?_))
  unfold layM
  by_cases hi : i = 0
  · rw [if_pos hi, if_pos hi]
    split <;> first | rfl | exact absurd ⟨rfl, hi⟩ h
  · rw [if_neg hi, if_neg hi]
theorem mp_2 {D : va_G} {B0 : Nat} {C : zL} {cA : Nat → ClassId} {am : Nat → Nat} {S U : zS} {H0 H : Heap} {locs : List Loc} {x : Int} (X : zX D B0 (zu (zj C (layM cA am S U)) 32 0 (some (am 0, .inr (6, (mfs am S U).set 2 (.int (i32 x)))))) H0 H locs) : zX D B0 (zj C (layM cA am (zs S 2 0 x) U)) H0 H locs := by
  refine X.to (zu_to rfl (fun k i h => zj_M ?_))
  unfold layM
  by_cases hi : i = 0
  · rw [if_pos hi, if_pos hi]
    split <;> first | rfl | exact absurd ⟨rfl, hi⟩ h
  · rw [if_neg hi, if_neg hi]
theorem mp_3 {D : va_G} {B0 : Nat} {C : zL} {cA : Nat → ClassId} {am : Nat → Nat} {S U : zS} {H0 H : Heap} {locs : List Loc} {x : Int} (X : zX D B0 (zu (zj C (layM cA am S U)) 32 0 (some (am 0, .inr (6, (mfs am S U).set 3 (.int (i32 x)))))) H0 H locs) : zX D B0 (zj C (layM cA am (zs S 3 0 x) U)) H0 H locs := by
  refine X.to (zu_to rfl (fun k i h => zj_M ?_))
  unfold layM
  by_cases hi : i = 0
  · rw [if_pos hi, if_pos hi]
    split <;> first | rfl | exact absurd ⟨rfl, hi⟩ h
  · rw [if_neg hi, if_neg hi]
theorem mp_4 {D : va_G} {B0 : Nat} {C : zL} {cA : Nat → ClassId} {am : Nat → Nat} {S U : zS} {H0 H : Heap} {locs : List Loc} {x : Int} (X : zX D B0 (zu (zj C (layM cA am S U)) 32 0 (some (am 0, .inr (6, (mfs am S U).set 4 (.int (i32 x)))))) H0 H locs) : zX D B0 (zj C (layM cA am (zs S 4 0 x) U)) H0 H locs := by
  refine X.to (zu_to rfl (fun k i h => zj_M ?_))
  unfold layM
  by_cases hi : i = 0
  · rw [if_pos hi, if_pos hi]
    split <;> first | rfl | exact absurd ⟨rfl, hi⟩ h
  · rw [if_neg hi, if_neg hi]
theorem mp_5 {D : va_G} {B0 : Nat} {C : zL} {cA : Nat → ClassId} {am : Nat → Nat} {S U : zS} {H0 H : Heap} {locs : List Loc} {x : Int} (X : zX D B0 (zu (zj C (layM cA am S U)) 32 0 (some (am 0, .inr (6, (mfs am S U).set 5 (.int (i32 x)))))) H0 H locs) : zX D B0 (zj C (layM cA am (zs S 5 0 x) U)) H0 H locs := by
  refine X.to (zu_to rfl (fun k i h => zj_M ?_))
  unfold layM
  by_cases hi : i = 0
  · rw [if_pos hi, if_pos hi]
    split <;> first | rfl | exact absurd ⟨rfl, hi⟩ h
  · rw [if_neg hi, if_neg hi]
theorem mp_8 {D : va_G} {B0 : Nat} {C : zL} {cA : Nat → ClassId} {am : Nat → Nat} {S U : zS} {H0 H : Heap} {locs : List Loc} {x : Int} (X : zX D B0 (zu (zj C (layM cA am S U)) 32 0 (some (am 0, .inr (6, (mfs am S U).set 8 (.int (i32 x)))))) H0 H locs) : zX D B0 (zj C (layM cA am (zs S 8 0 x) U)) H0 H locs := by
  refine X.to (zu_to rfl (fun k i h => zj_M ?_))
  unfold layM
  by_cases hi : i = 0
  · rw [if_pos hi, if_pos hi]
    split <;> first | rfl | exact absurd ⟨rfl, hi⟩ h
  · rw [if_neg hi, if_neg hi]
theorem mp_19 {D : va_G} {B0 : Nat} {C : zL} {cA : Nat → ClassId} {am : Nat → Nat} {S U : zS} {H0 H : Heap} {locs : List Loc} {x : Int} (X : zX D B0 (zu (zj C (layM cA am S U)) 32 0 (some (am 0, .inr (6, (mfs am S U).set 19 (.int (i32 x)))))) H0 H locs) : zX D B0 (zj C (layM cA am (zs S 19 0 x) U)) H0 H locs := by
  refine X.to (zu_to rfl (fun k i h => zj_M ?_))
  unfold layM
  by_cases hi : i = 0
  · rw [if_pos hi, if_pos hi]
    split <;> first | rfl | exact absurd ⟨rfl, hi⟩ h
  · rw [if_neg hi, if_neg hi]
theorem mp_27 {D : va_G} {B0 : Nat} {C : zL} {cA : Nat → ClassId} {am : Nat → Nat} {S U : zS} {H0 H : Heap} {locs : List Loc} {x : Int} (X : zX D B0 (zu (zj C (layM cA am S U)) 32 0 (some (am 0, .inr (6, (mfs am S U).set 27 (.int (i32 x)))))) H0 H locs) : zX D B0 (zj C (layM cA am (zs S 27 0 x) U)) H0 H locs := by
  refine X.to (zu_to rfl (fun k i h => zj_M ?_))
  unfold layM
  by_cases hi : i = 0
  · rw [if_pos hi, if_pos hi]
    split <;> first | rfl | exact absurd ⟨rfl, hi⟩ h
  · rw [if_neg hi, if_neg hi]
theorem mp_17 {D : va_G} {B0 : Nat} {C : zL} {cA : Nat → ClassId} {am : Nat → Nat} {S U : zS} {H0 H : Heap} {locs : List Loc} {x : Int} (X : zX D B0 (zu (zj C (layM cA am S U)) 32 0 (some (am 0, .inr (6, (mfs am S U).set 17 (.int (i32 x)))))) H0 H locs) : zX D B0 (zj C (layM cA am (zs S 17 0 x) U)) H0 H locs := by
  refine X.to (zu_to rfl (fun k i h => zj_M ?_))
  unfold layM
  by_cases hi : i = 0
  · rw [if_pos hi, if_pos hi]
    split <;> first | rfl | exact absurd ⟨rfl, hi⟩ h
  · rw [if_neg hi, if_neg hi]
theorem ma_6 {D : va_G} {B0 : Nat} {C : zL} {cA : Nat → ClassId} {am : Nat → Nat} {S U : zS} {H0 H : Heap} {locs : List Loc} {x : Int} {j : Nat} (X : zX D B0 (zu (zj C (layM cA am S U)) 38 0 (some (am 6, .inl (cA 0, 8, .inl (fun j' => i32 (zg (S 6) j x j')))))) H0 H locs) : zX D B0 (zj C (layM cA am (zs S 6 j x) U)) H0 H locs := by
  refine X.to (zu_to rfl (fun k i h => zj_M ?_))
  unfold layM
  by_cases hi : i = 0
  · rw [if_pos hi, if_pos hi]
    split <;> first | rfl | exact absurd ⟨rfl, hi⟩ h
  · rw [if_neg hi, if_neg hi]
theorem ma_7 {D : va_G} {B0 : Nat} {C : zL} {cA : Nat → ClassId} {am : Nat → Nat} {S U : zS} {H0 H : Heap} {locs : List Loc} {x : Int} {j : Nat} (X : zX D B0 (zu (zj C (layM cA am S U)) 39 0 (some (am 7, .inl (cA 1, 8, .inl (fun j' => i32 (zg (S 7) j x j')))))) H0 H locs) : zX D B0 (zj C (layM cA am (zs S 7 j x) U)) H0 H locs := by
  refine X.to (zu_to rfl (fun k i h => zj_M ?_))
  unfold layM
  by_cases hi : i = 0
  · rw [if_pos hi, if_pos hi]
    split <;> first | rfl | exact absurd ⟨rfl, hi⟩ h
  · rw [if_neg hi, if_neg hi]
theorem ma_9 {D : va_G} {B0 : Nat} {C : zL} {cA : Nat → ClassId} {am : Nat → Nat} {S U : zS} {H0 H : Heap} {locs : List Loc} {x : Int} {j : Nat} (X : zX D B0 (zu (zj C (layM cA am S U)) 41 0 (some (am 9, .inl (cA 0, 8, .inl (fun j' => i32 (zg (S 9) j x j')))))) H0 H locs) : zX D B0 (zj C (layM cA am (zs S 9 j x) U)) H0 H locs := by
  refine X.to (zu_to rfl (fun k i h => zj_M ?_))
  unfold layM
  by_cases hi : i = 0
  · rw [if_pos hi, if_pos hi]
    split <;> first | rfl | exact absurd ⟨rfl, hi⟩ h
  · rw [if_neg hi, if_neg hi]
theorem ma_10 {D : va_G} {B0 : Nat} {C : zL} {cA : Nat → ClassId} {am : Nat → Nat} {S U : zS} {H0 H : Heap} {locs : List Loc} {x : Int} {j : Nat} (X : zX D B0 (zu (zj C (layM cA am S U)) 42 0 (some (am 10, .inl (cA 0, 8, .inl (fun j' => i32 (zg (S 10) j x j')))))) H0 H locs) : zX D B0 (zj C (layM cA am (zs S 10 j x) U)) H0 H locs := by
  refine X.to (zu_to rfl (fun k i h => zj_M ?_))
  unfold layM
  by_cases hi : i = 0
  · rw [if_pos hi, if_pos hi]
    split <;> first | rfl | exact absurd ⟨rfl, hi⟩ h
  · rw [if_neg hi, if_neg hi]
theorem ma_11 {D : va_G} {B0 : Nat} {C : zL} {cA : Nat → ClassId} {am : Nat → Nat} {S U : zS} {H0 H : Heap} {locs : List Loc} {x : Int} {j : Nat} (X : zX D B0 (zu (zj C (layM cA am S U)) 43 0 (some (am 11, .inl (cA 0, 8, .inl (fun j' => i32 (zg (S 11) j x j')))))) H0 H locs) : zX D B0 (zj C (layM cA am (zs S 11 j x) U)) H0 H locs := by
  refine X.to (zu_to rfl (fun k i h => zj_M ?_))
  unfold layM
  by_cases hi : i = 0
  · rw [if_pos hi, if_pos hi]
    split <;> first | rfl | exact absurd ⟨rfl, hi⟩ h
  · rw [if_neg hi, if_neg hi]
theorem ma_12 {D : va_G} {B0 : Nat} {C : zL} {cA : Nat → ClassId} {am : Nat → Nat} {S U : zS} {H0 H : Heap} {locs : List Loc} {x : Int} {j : Nat} (X : zX D B0 (zu (zj C (layM cA am S U)) 44 0 (some (am 12, .inl (cA 0, 8, .inl (fun j' => i32 (zg (S 12) j x j')))))) H0 H locs) : zX D B0 (zj C (layM cA am (zs S 12 j x) U)) H0 H locs := by
  refine X.to (zu_to rfl (fun k i h => zj_M ?_))
  unfold layM
  by_cases hi : i = 0
  · rw [if_pos hi, if_pos hi]
    split <;> first | rfl | exact absurd ⟨rfl, hi⟩ h
  · rw [if_neg hi, if_neg hi]
theorem ma_13 {D : va_G} {B0 : Nat} {C : zL} {cA : Nat → ClassId} {am : Nat → Nat} {S U : zS} {H0 H : Heap} {locs : List Loc} {x : Int} {j : Nat} (X : zX D B0 (zu (zj C (layM cA am S U)) 45 0 (some (am 13, .inl (cA 0, 8, .inl (fun j' => i32 (zg (S 13) j x j')))))) H0 H locs) : zX D B0 (zj C (layM cA am (zs S 13 j x) U)) H0 H locs := by
  refine X.to (zu_to rfl (fun k i h => zj_M ?_))
  unfold layM
  by_cases hi : i = 0
  · rw [if_pos hi, if_pos hi]
    split <;> first | rfl | exact absurd ⟨rfl, hi⟩ h
  · rw [if_neg hi, if_neg hi]
theorem ma_14 {D : va_G} {B0 : Nat} {C : zL} {cA : Nat → ClassId} {am : Nat → Nat} {S U : zS} {H0 H : Heap} {locs : List Loc} {x : Int} {j : Nat} (X : zX D B0 (zu (zj C (layM cA am S U)) 46 0 (some (am 14, .inl (cA 0, 20808, .inl (fun j' => i32 (zg (U 14) j x j')))))) H0 H locs) : zX D B0 (zj C (layM cA am S (zs U 14 j x))) H0 H locs := by
  refine X.to (zu_to rfl (fun k i h => zj_M ?_))
  unfold layM
  by_cases hi : i = 0
  · rw [if_pos hi, if_pos hi]
    split <;> first | rfl | exact absurd ⟨rfl, hi⟩ h
  · rw [if_neg hi, if_neg hi]
theorem ma_15 {D : va_G} {B0 : Nat} {C : zL} {cA : Nat → ClassId} {am : Nat → Nat} {S U : zS} {H0 H : Heap} {locs : List Loc} {x : Int} {j : Nat} (X : zX D B0 (zu (zj C (layM cA am S U)) 47 0 (some (am 15, .inl (cA 0, 20808, .inl (fun j' => i32 (zg (U 15) j x j')))))) H0 H locs) : zX D B0 (zj C (layM cA am S (zs U 15 j x))) H0 H locs := by
  refine X.to (zu_to rfl (fun k i h => zj_M ?_))
  unfold layM
  by_cases hi : i = 0
  · rw [if_pos hi, if_pos hi]
    split <;> first | rfl | exact absurd ⟨rfl, hi⟩ h
  · rw [if_neg hi, if_neg hi]
theorem ma_16 {D : va_G} {B0 : Nat} {C : zL} {cA : Nat → ClassId} {am : Nat → Nat} {S U : zS} {H0 H : Heap} {locs : List Loc} {x : Int} {j : Nat} (X : zX D B0 (zu (zj C (layM cA am S U)) 48 0 (some (am 16, .inl (cA 1, 408, .inl (fun j' => i32 (zg (U 16) j x j')))))) H0 H locs) : zX D B0 (zj C (layM cA am S (zs U 16 j x))) H0 H locs := by
  refine X.to (zu_to rfl (fun k i h => zj_M ?_))
  unfold layM
  by_cases hi : i = 0
  · rw [if_pos hi, if_pos hi]
    split <;> first | rfl | exact absurd ⟨rfl, hi⟩ h
  · rw [if_neg hi, if_neg hi]
theorem ma_18 {D : va_G} {B0 : Nat} {C : zL} {cA : Nat → ClassId} {am : Nat → Nat} {S U : zS} {H0 H : Heap} {locs : List Loc} {x : Int} {j : Nat} (X : zX D B0 (zu (zj C (layM cA am S U)) 50 0 (some (am 18, .inl (cA 0, 8, .inl (fun j' => i32 (zg (S 18) j x j')))))) H0 H locs) : zX D B0 (zj C (layM cA am (zs S 18 j x) U)) H0 H locs := by
  refine X.to (zu_to rfl (fun k i h => zj_M ?_))
  unfold layM
  by_cases hi : i = 0
  · rw [if_pos hi, if_pos hi]
    split <;> first | rfl | exact absurd ⟨rfl, hi⟩ h
  · rw [if_neg hi, if_neg hi]
theorem ma_20 {D : va_G} {B0 : Nat} {C : zL} {cA : Nat → ClassId} {am : Nat → Nat} {S U : zS} {H0 H : Heap} {locs : List Loc} {x : Int} {j : Nat} (X : zX D B0 (zu (zj C (layM cA am S U)) 52 0 (some (am 20, .inl (cA 0, 6, .inl (fun j' => i32 (zg (S 20) j x j')))))) H0 H locs) : zX D B0 (zj C (layM cA am (zs S 20 j x) U)) H0 H locs := by
  refine X.to (zu_to rfl (fun k i h => zj_M ?_))
  unfold layM
  by_cases hi : i = 0
  · rw [if_pos hi, if_pos hi]
    split <;> first | rfl | exact absurd ⟨rfl, hi⟩ h
  · rw [if_neg hi, if_neg hi]
theorem ma_21 {D : va_G} {B0 : Nat} {C : zL} {cA : Nat → ClassId} {am : Nat → Nat} {S U : zS} {H0 H : Heap} {locs : List Loc} {x : Int} {j : Nat} (X : zX D B0 (zu (zj C (layM cA am S U)) 53 0 (some (am 21, .inl (cA 0, 6, .inl (fun j' => i32 (zg (S 21) j x j')))))) H0 H locs) : zX D B0 (zj C (layM cA am (zs S 21 j x) U)) H0 H locs := by
  refine X.to (zu_to rfl (fun k i h => zj_M ?_))
  unfold layM
  by_cases hi : i = 0
  · rw [if_pos hi, if_pos hi]
    split <;> first | rfl | exact absurd ⟨rfl, hi⟩ h
  · rw [if_neg hi, if_neg hi]
theorem ma_22 {D : va_G} {B0 : Nat} {C : zL} {cA : Nat → ClassId} {am : Nat → Nat} {S U : zS} {H0 H : Heap} {locs : List Loc} {x : Int} {j : Nat} (X : zX D B0 (zu (zj C (layM cA am S U)) 54 0 (some (am 22, .inl (cA 0, 6, .inl (fun j' => i32 (zg (S 22) j x j')))))) H0 H locs) : zX D B0 (zj C (layM cA am (zs S 22 j x) U)) H0 H locs := by
  refine X.to (zu_to rfl (fun k i h => zj_M ?_))
  unfold layM
  by_cases hi : i = 0
  · rw [if_pos hi, if_pos hi]
    split <;> first | rfl | exact absurd ⟨rfl, hi⟩ h
  · rw [if_neg hi, if_neg hi]
theorem ma_23 {D : va_G} {B0 : Nat} {C : zL} {cA : Nat → ClassId} {am : Nat → Nat} {S U : zS} {H0 H : Heap} {locs : List Loc} {x : Int} {j : Nat} (X : zX D B0 (zu (zj C (layM cA am S U)) 55 0 (some (am 23, .inl (cA 0, 6, .inl (fun j' => i32 (zg (S 23) j x j')))))) H0 H locs) : zX D B0 (zj C (layM cA am (zs S 23 j x) U)) H0 H locs := by
  refine X.to (zu_to rfl (fun k i h => zj_M ?_))
  unfold layM
  by_cases hi : i = 0
  · rw [if_pos hi, if_pos hi]
    split <;> first | rfl | exact absurd ⟨rfl, hi⟩ h
  · rw [if_neg hi, if_neg hi]
theorem ma_24 {D : va_G} {B0 : Nat} {C : zL} {cA : Nat → ClassId} {am : Nat → Nat} {S U : zS} {H0 H : Heap} {locs : List Loc} {x : Int} {j : Nat} (X : zX D B0 (zu (zj C (layM cA am S U)) 56 0 (some (am 24, .inl (cA 0, 6, .inl (fun j' => i32 (zg (S 24) j x j')))))) H0 H locs) : zX D B0 (zj C (layM cA am (zs S 24 j x) U)) H0 H locs := by
  refine X.to (zu_to rfl (fun k i h => zj_M ?_))
  unfold layM
  by_cases hi : i = 0
  · rw [if_pos hi, if_pos hi]
    split <;> first | rfl | exact absurd ⟨rfl, hi⟩ h
  · rw [if_neg hi, if_neg hi]
theorem ma_25 {D : va_G} {B0 : Nat} {C : zL} {cA : Nat → ClassId} {am : Nat → Nat} {S U : zS} {H0 H : Heap} {locs : List Loc} {x : Int} {j : Nat} (X : zX D B0 (zu (zj C (layM cA am S U)) 57 0 (some (am 25, .inl (cA 0, 384, .inl (fun j' => i32 (zg (S 25) j x j')))))) H0 H locs) : zX D B0 (zj C (layM cA am (zs S 25 j x) U)) H0 H locs := by
  refine X.to (zu_to rfl (fun k i h => zj_M ?_))
  unfold layM
  by_cases hi : i = 0
  · rw [if_pos hi, if_pos hi]
    split <;> first | rfl | exact absurd ⟨rfl, hi⟩ h
  · rw [if_neg hi, if_neg hi]
theorem ma_26 {D : va_G} {B0 : Nat} {C : zL} {cA : Nat → ClassId} {am : Nat → Nat} {S U : zS} {H0 H : Heap} {locs : List Loc} {x : Int} {j : Nat} (X : zX D B0 (zu (zj C (layM cA am S U)) 58 0 (some (am 26, .inl (cA 0, 64, .inl (fun j' => i32 (zg (U 26) j x j')))))) H0 H locs) : zX D B0 (zj C (layM cA am S (zs U 26 j x))) H0 H locs := by
  refine X.to (zu_to rfl (fun k i h => zj_M ?_))
  unfold layM
  by_cases hi : i = 0
  · rw [if_pos hi, if_pos hi]
    split <;> first | rfl | exact absurd ⟨rfl, hi⟩ h
  · rw [if_neg hi, if_neg hi]
