theorem cw_etimes {D : va_G} {B0 : Nat} {M : zL} {cA : Nat → ClassId} {a : Nat → Nat → Nat} {G : zG} {S : zS} {H0 H : Heap} {locs : List Loc} {x : Int} {q j : Nat} (hi : (q : Int) < S 8 0) (X : zX D B0 (zu (zj (layC cA a G S) M) 13 q (some (a 13 q, .inl (cA 0, 64, .inl (fun j' => i32 (zg (G 13 q) j x j')))))) H0 H locs) : zX D B0 (zj (layC cA a (z3 G 13 q j x) S) M) H0 H locs := by
  refine X.to (zu_to ?_ (fun k i hh => zj_C ?_))
  · show (if (q : Int) < S 8 0 then some (kI cA (a 13 q) 64 (z3 G 13 q j x 13 q)) else none) = _
    rw [if_pos hi, show z3 G 13 q j x 13 q = zg (G 13 q) j x by rw [z3_eq]; exact if_pos rfl]
  · unfold layC
    split <;> try rfl
    have hne : i ≠ q := fun e => hh ⟨rfl, e⟩
    rw [show z3 G 13 q j x 13 i = G 13 i by rw [z3_eq]; exact if_neg hne]
theorem cw_wait {D : va_G} {B0 : Nat} {M : zL} {cA : Nat → ClassId} {a : Nat → Nat → Nat} {G : zG} {S : zS} {H0 H : Heap} {locs : List Loc} {x : Int} {q : Nat} (hi : (q : Int) < S 5 0) (X : zX D B0 (zu (zj (layC cA a G S) M) 10 q (some (a 10 q, .inr (0, (efs a G S q).set 3 (.int (i32 x)))))) H0 H locs) : zX D B0 (zj (layC cA a (z3 G 10 q 0 x) S) M) H0 H locs := by
  refine X.to (zu_to ?_ (fun k i hh => zj_C ?_))
  · show (if (q : Int) < S 5 0 then some (a 10 q, Sum.inr (0, efs a (z3 G 10 q 0 x) S q)) else none) = _
    rw [if_pos hi]
    have e1 : z3 G 10 q 0 x 10 q 0 = x := by rw [z3_eq]; simp [zg]
    simp only [efs, e1]
    rfl
  · unfold layC
    split <;> try rfl
    have hne : i ≠ q := fun e => hh ⟨rfl, e⟩
    have e1 : z3 G 10 q 0 x 10 i 0 = G 10 i 0 := by rw [z3_eq]; simp [hne]
    simp only [efs, e1]
theorem cw_works {D : va_G} {B0 : Nat} {M : zL} {cA : Nat → ClassId} {a : Nat → Nat → Nat} {G : zG} {S : zS} {H0 H : Heap} {locs : List Loc} {x : Int} {q : Nat} (hi : (q : Int) < S 5 0) (X : zX D B0 (zu (zj (layC cA a G S) M) 10 q (some (a 10 q, .inr (0, (efs a G S q).set 2 (.int (i32 (1 - x))))))) H0 H locs) : zX D B0 (zj (layC cA a G (zs S 7 q x)) M) H0 H locs := by
  refine X.to (zu_to ?_ (fun k i hh => zj_C ?_))
  · show (if (q : Int) < S 5 0 then some (a 10 q, Sum.inr (0, efs a G (zs S 7 q x) q)) else none) = _
    rw [if_pos hi]
    have e1 : zs S 7 q x 7 q = x := by rw [zs_eq, zg_eq]
    simp only [efs, e1]
    rfl
  · unfold layC
    split <;> try rfl
    have hne : i ≠ q := fun e => hh ⟨rfl, e⟩
    have e1 : zs S 7 q x 7 i = S 7 i := by rw [zs_eq, zg_ne hne]
    show (if (i : Int) < S 5 0 then some (a 10 i, Sum.inr (0, efs a G (zs S 7 q x) i)) else none) = _
    simp only [efs, e1]
    rfl
/-- places of different sheets differ -/
theorem cw_numbers {D : va_G} {B0 : Nat} {M : zL} {cA : Nat → ClassId} {a : Nat → Nat → Nat} {G : zG} {S : zS} {H0 H : Heap} {locs : List Loc} {x : Int} {q j : Nat} (hi : q < 6 ∧ 0 ≤ S 23 q) (hj : (j : Int) < S 23 q) (h64 : ∀ i : Nat, i < 6 → S 23 i ≤ 64) (X : zX D B0 (zu (zj (layC cA a G S) M) 16 q (some (a 16 q, .inl (cA 0, (S 23 q).toNat, .inl (fun j' => i32 (zg (fun j => S 25 (64 * q + j)) j x j')))))) H0 H locs) : zX D B0 (zj (layC cA a G (zs S 25 (64 * q + j) x)) M) H0 H locs := by
  obtain ⟨⟨w1, w2, w3⟩, hS⟩ := X
  have hq64 := h64 q hi.1
  have key : ∀ (k i : Nat) (y : Nat × va_E), zj (layC cA a G (zs S 25 (64 * q + j) x)) M k i = some y → ∃ y' : Nat × va_E, zu (zj (layC cA a G S) M) 16 q (some (a 16 q, .inl (cA 0, (S 23 q).toNat, .inl (fun j' => i32 (zg (fun j => S 25 (64 * q + j)) j x j'))))) k i = some y' ∧ y'.1 = y.1 ∧ (va_at D vwCl y' H → va_at D vwCl y H) := by
    intro k i y hy
    by_cases hp : k = 16 ∧ i = q
    · obtain ⟨rfl, rfl⟩ := hp
      rw [zu_self]
      have hy : (if i < 6 ∧ 0 ≤ S 23 i then some (kI cA (a 16 i) (S 23 i).toNat (fun j2 => zs S 25 (64 * i + j) x 25 (64 * i + j2))) else none) = some y := hy
      rw [if_pos hi] at hy
      cases hy
      refine ⟨_, rfl, rfl, fun hv => ?_⟩
      have e1 : (fun j2 => i32 (zs S 25 (64 * i + j) x 25 (64 * i + j2))) = (fun j' => i32 (zg (fun j => S 25 (64 * i + j)) j x j')) := by
        funext j2
        rw [zs_eq]
        unfold zg
        by_cases h : j2 = j
        · rw [if_pos (by omega), if_pos h]
        · rw [if_neg (by omega), if_neg h]
      show H[a 16 i]? = some (vp_cell (cA 0) ((S 23 i).toNat, .inl (fun j2 => i32 (zs S 25 (64 * i + j) x 25 (64 * i + j2)))))
      rw [e1]
      exact hv
    · rw [zu_ne hp]
      by_cases hk : k = 16
      · subst hk
        have hne : i ≠ q := fun e => hp ⟨rfl, e⟩
        have hy : (if i < 6 ∧ 0 ≤ S 23 i then some (kI cA (a 16 i) (S 23 i).toNat (fun j2 => zs S 25 (64 * q + j) x 25 (64 * i + j2))) else none) = some y := hy
        by_cases hc : i < 6 ∧ 0 ≤ S 23 i
        · rw [if_pos hc] at hy
          cases hy
          refine ⟨_, lC_16 M cA a G S i hc, rfl, fun hv => ?_⟩
          have hv : H[a 16 i]? = some (vp_cell (cA 0) ((S 23 i).toNat, .inl (fun j2 => i32 (S 25 (64 * i + j2))))) := hv
          show H[a 16 i]? = some (vp_cell (cA 0) ((S 23 i).toNat, .inl (fun j2 => i32 (zs S 25 (64 * q + j) x 25 (64 * i + j2)))))
          rw [hv]
          refine congrArg some (z_arr (fun j2 hj2 => ?_))
          have := h64 i hc.1
          rw [zs_eq, zg_ne (by omega)]
        · rw [if_neg hc] at hy
          cases hy
      · refine ⟨y, ?_, rfl, fun h => h⟩
        rw [← hy]
        refine zj_C ?_
        unfold layC
        split <;> first | rfl | (exfalso; omega)
  refine ⟨⟨fun k i y hy => ?_, fun k1 i1 k2 i2 y y' h1 h2 hx => ?_, w3⟩, hS⟩
  · obtain ⟨y', a1, a2, a3⟩ := key k i y hy
    obtain ⟨b1, b2⟩ := w1 k i y' a1
    exact ⟨a3 b1, by rw [← a2]; exact b2⟩
  · obtain ⟨z1, a1, a2, -⟩ := key k1 i1 y h1
    obtain ⟨z2, b1, b2, -⟩ := key k2 i2 y' h2
    exact w2 k1 i1 k2 i2 z1 z2 a1 b1 (by rw [a2, b2]; exact hx)
def gA (G : zG) (g : Nat → Int) : zG := fun k => match k with
  | 8 => fun i => match i with
    | 0 => g
    | i + 1 => G 8 (i + 1)
  | k => G k
theorem gA_k {G : zG} {g : Nat → Int} {k : Nat} (h : k ≠ 8) : gA G g k = G k := by
  unfold gA
  split
  · omega
  · rfl
theorem cw_ahead {D : va_G} {B0 : Nat} {M : zL} {cA : Nat → ClassId} {a : Nat → Nat → Nat} {G : zG} {S : zS} {H0 H : Heap} {locs : List Loc} {x : Int} {g : Nat → Int} (X : zX D B0 (zu (zj (layC cA a G S) M) 8 0 (some (kI cA (a 8 0) 64 g))) H0 H locs) : ∃ G' : zG, (∀ k : Nat, k ≠ 8 → G' k = G k) ∧ G' 8 0 = g ∧ zX D B0 (zj (layC cA a G' S) M) H0 H locs := by
  refine ⟨gA G g, fun k hk => gA_k hk, rfl, X.to (zu_to rfl (fun k i hh => zj_C ?_))⟩
  unfold layC
  split <;> try rfl
  by_cases hi : i = 0
  · exfalso
    exact hh ⟨rfl, hi⟩
  · simp [hi]
