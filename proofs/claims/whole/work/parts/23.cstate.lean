/-! the class's cells over a state S: a: addresses, G: its own tables (2 wedgeTicks, 3 plateTicks, 8 ahead, 9 times, 10 waits, 11 ready, 13 echo times) -/
abbrev cfs (a : Nat → Nat → Nat) (S : zS) : List Value := [.ref (a 1 0), .ref (a 4 0), .ref (a 5 0), .ref (a 6 0), .ref (a 7 0), .ref (a 8 0), .int (i32 (S 5 0)), .int (i32 (S 8 0)), .int (i32 (S 19 0)), .int (i32 (S 27 0)), .int (i32 (S 17 0))]
abbrev yfs (a : Nat → Nat → Nat) (S : zS) : List Value := [.int (i32 (S 1 0)), .int (i32 (S 2 0)), .int (i32 (S 4 0)), .ref (a 2 0), .ref (a 3 0), .ref (a 9 0), .ref (a 11 0)]
abbrev efs (a : Nat → Nat → Nat) (G : zG) (S : zS) (i : Nat) : List Value := [.int (i32 (i : Int)), .int (i32 (S 6 i)), .int (i32 (1 - S 7 i)), .int (i32 (G 10 i 0))]
abbrev tfs (a : Nat → Nat → Nat) (S : zS) (i : Nat) : List Value := [.int (i32 (S 9 i)), .int (i32 (S 10 i)), .int (i32 (S 11 i)), .int (i32 (if S 9 i = 2 then 0 else S 12 i)), .int (i32 (S 13 i)), .ref (a 13 i)]
abbrev ofs (a : Nat → Nat → Nat) (S : zS) (i : Nat) : List Value := [.ref (a 10 (S 20 i).toNat), .ref (a 10 (S 21 i).toNat), .int (i32 (S 22 i))]
abbrev sfs (a : Nat → Nat → Nat) (S : zS) (i : Nat) : List Value := [.int (i32 (S 24 i)), .ref (a 16 i)]
abbrev opt (c : Prop) [Decidable c] (q : Nat) : Option Nat := if c then some q else none
def layC (cA : Nat → ClassId) (a : Nat → Nat → Nat) (G : zG) (S : zS) : zL := fun k i => match k with
  | 0 => if i = 0 then some (a 0 0, .inr (5, cfs a S)) else none
  | 1 => if i = 0 then some (a 1 0, .inr (1, yfs a S)) else none
  | 2 => if i = 0 then some (kI cA (a 2 0) 51 (G 2 0)) else none
  | 3 => if i = 0 then some (kI cA (a 3 0) 51 (G 3 0)) else none
  | 4 => if i = 0 then some (kQ (cA 2) (a 4 0) 8 (fun j => opt ((j : Int) < S 5 0) (a 10 j))) else none
  | 5 => if i = 0 then some (kQ (cA 3) (a 5 0) 8 (fun j => opt ((j : Int) < S 8 0) (a 12 j))) else none
  | 6 => if i = 0 then some (kQ (cA 4) (a 6 0) 6 (fun j => opt ((j : Int) < S 19 0) (a 14 j))) else none
  | 7 => if i = 0 then some (kQ (cA 5) (a 7 0) 6 (fun j => opt (0 ≤ S 23 j) (a 15 j))) else none
  | 8 => if i = 0 then some (kI cA (a 8 0) 64 (G 8 0)) else none
  | 9 => if i = 0 then some (kI cA (a 9 0) 1632 (G 9 0)) else none
  | 10 => if (i : Int) < S 5 0 then some (a 10 i, .inr (0, efs a G S i)) else none
  | 11 => if i = 0 then some (kZ cA (a 11 0) 32 (G 11 0)) else none
  | 12 => if (i : Int) < S 8 0 then some (a 12 i, .inr (3, tfs a S i)) else none
  | 13 => if (i : Int) < S 8 0 then some (kI cA (a 13 i) 64 (G 13 i)) else none
  | 14 => if (i : Int) < S 19 0 then some (a 14 i, .inr (4, ofs a S i)) else none
  | 15 => if i < 6 ∧ 0 ≤ S 23 i then some (a 15 i, .inr (2, sfs a S i)) else none
  | 16 => if i < 6 ∧ 0 ≤ S 23 i then some (kI cA (a 16 i) (S 23 i).toNat (fun j => S 25 (64 * i + j))) else none
  | _ => none
theorem lC_0 (M : zL) (cA : Nat → ClassId) (a : Nat → Nat → Nat) (G : zG) (S : zS) : zj (layC cA a G S) M 0 0 = some (a 0 0, .inr (5, cfs a S)) := rfl
theorem lC_1 (M : zL) (cA : Nat → ClassId) (a : Nat → Nat → Nat) (G : zG) (S : zS) : zj (layC cA a G S) M 1 0 = some (a 1 0, .inr (1, yfs a S)) := rfl
theorem lC_2 (M : zL) (cA : Nat → ClassId) (a : Nat → Nat → Nat) (G : zG) (S : zS) : zj (layC cA a G S) M 2 0 = some (kI cA (a 2 0) 51 (G 2 0)) := rfl
theorem lC_3 (M : zL) (cA : Nat → ClassId) (a : Nat → Nat → Nat) (G : zG) (S : zS) : zj (layC cA a G S) M 3 0 = some (kI cA (a 3 0) 51 (G 3 0)) := rfl
theorem lC_9 (M : zL) (cA : Nat → ClassId) (a : Nat → Nat → Nat) (G : zG) (S : zS) : zj (layC cA a G S) M 9 0 = some (kI cA (a 9 0) 1632 (G 9 0)) := rfl
theorem lC_11 (M : zL) (cA : Nat → ClassId) (a : Nat → Nat → Nat) (G : zG) (S : zS) : zj (layC cA a G S) M 11 0 = some (kZ cA (a 11 0) 32 (G 11 0)) := rfl
theorem lC_4 (M : zL) (cA : Nat → ClassId) (a : Nat → Nat → Nat) (G : zG) (S : zS) : zj (layC cA a G S) M 4 0 = some (kQ (cA 2) (a 4 0) 8 (fun j => opt ((j : Int) < S 5 0) (a 10 j))) := rfl
theorem lC_5 (M : zL) (cA : Nat → ClassId) (a : Nat → Nat → Nat) (G : zG) (S : zS) : zj (layC cA a G S) M 5 0 = some (kQ (cA 3) (a 5 0) 8 (fun j => opt ((j : Int) < S 8 0) (a 12 j))) := rfl
theorem lC_6 (M : zL) (cA : Nat → ClassId) (a : Nat → Nat → Nat) (G : zG) (S : zS) : zj (layC cA a G S) M 6 0 = some (kQ (cA 4) (a 6 0) 6 (fun j => opt ((j : Int) < S 19 0) (a 14 j))) := rfl
theorem lC_7 (M : zL) (cA : Nat → ClassId) (a : Nat → Nat → Nat) (G : zG) (S : zS) : zj (layC cA a G S) M 7 0 = some (kQ (cA 5) (a 7 0) 6 (fun j => opt (0 ≤ S 23 j) (a 15 j))) := rfl
theorem lC_8 (M : zL) (cA : Nat → ClassId) (a : Nat → Nat → Nat) (G : zG) (S : zS) : zj (layC cA a G S) M 8 0 = some (kI cA (a 8 0) 64 (G 8 0)) := rfl
theorem lC_10 (M : zL) (cA : Nat → ClassId) (a : Nat → Nat → Nat) (G : zG) (S : zS) (i : Nat) (h : (i : Int) < S 5 0) : zj (layC cA a G S) M 10 i = some (a 10 i, .inr (0, efs a G S i)) := if_pos h
theorem lC_12 (M : zL) (cA : Nat → ClassId) (a : Nat → Nat → Nat) (G : zG) (S : zS) (i : Nat) (h : (i : Int) < S 8 0) : zj (layC cA a G S) M 12 i = some (a 12 i, .inr (3, tfs a S i)) := if_pos h
theorem lC_13 (M : zL) (cA : Nat → ClassId) (a : Nat → Nat → Nat) (G : zG) (S : zS) (i : Nat) (h : (i : Int) < S 8 0) : zj (layC cA a G S) M 13 i = some (kI cA (a 13 i) 64 (G 13 i)) := if_pos h
theorem lC_14 (M : zL) (cA : Nat → ClassId) (a : Nat → Nat → Nat) (G : zG) (S : zS) (i : Nat) (h : (i : Int) < S 19 0) : zj (layC cA a G S) M 14 i = some (a 14 i, .inr (4, ofs a S i)) := if_pos h
theorem lC_15 (M : zL) (cA : Nat → ClassId) (a : Nat → Nat → Nat) (G : zG) (S : zS) (i : Nat) (h : i < 6 ∧ 0 ≤ S 23 i) : zj (layC cA a G S) M 15 i = some (a 15 i, .inr (2, sfs a S i)) := if_pos h
theorem lC_16 (M : zL) (cA : Nat → ClassId) (a : Nat → Nat → Nat) (G : zG) (S : zS) (i : Nat) (h : i < 6 ∧ 0 ≤ S 23 i) : zj (layC cA a G S) M 16 i = some (kI cA (a 16 i) (S 23 i).toNat (fun j => S 25 (64 * i + j))) := if_pos h
section ZA
variable {p : Program} {l : Launch} {e : Env} {R : Room} {s : State} {m : MethodId} {args : Array Value} {below : List Frame} {meth : Method} {c : Code} {H : Heap} {locs : List Loc} {cells slots : Nat} {Q : State → Prop}
variable {cc : ByteArray} {pc : Nat} {ls : Array Slot} {rest : List Value} {own nm : String} {ws : List Cond} {ml : Nat} {ret : Option FieldType} {D : va_G} {cA : Nat → ClassId} {B0 : Nat} {L : zL}
theorem z_aldS (E : zE p s m args meth c cc own nm ws ml ret D cA) (X : zX D B0 L s.heap H locs) {k i a n : Nat} (t : Nat) {cl : ClassId} {C : String} {f : Nat → Option Nat} (h : L k i = some (kQ cl a n f)) (ht : (ztys cA)[t]? = some (cl, .object C)) {z : Int} (j : Nat) (hj : z = (j : Int)) (h2 : j < n) (h3 : n < 2147483648) {q : Nat} (hq : f j = some q) (d : decode cc pc = .ok (.aaload, 1))
    (ks : W p l e R s m args below meth c H locs cells slots Q (F0 m (pc + 1) ls (.ref q :: rest))) : W p l e R s m args below meth c H locs cells slots Q (F0 m pc ls (.int (i32 z) :: .ref a :: rest)) :=
  z_aald E X t h ht j hj h2 h3 d (fun q' h' => by rw [hq] at h'; cases h'; exact ks) (fun h' => by rw [hq] at h'; cases h')
theorem z_aldN (E : zE p s m args meth c cc own nm ws ml ret D cA) (X : zX D B0 L s.heap H locs) {k i a n : Nat} (t : Nat) {cl : ClassId} {C : String} {f : Nat → Option Nat} (h : L k i = some (kQ cl a n f)) (ht : (ztys cA)[t]? = some (cl, .object C)) {z : Int} (j : Nat) (hj : z = (j : Int)) (h2 : j < n) (h3 : n < 2147483648) (hq : f j = none) (d : decode cc pc = .ok (.aaload, 1))
    (ks : W p l e R s m args below meth c H locs cells slots Q (F0 m (pc + 1) ls (.null :: rest))) : W p l e R s m args below meth c H locs cells slots Q (F0 m pc ls (.int (i32 z) :: .ref a :: rest)) :=
  z_aald E X t h ht j hj h2 h3 d (fun q' h' => by rw [hq] at h'; cases h') (fun _ => ks)
end ZA
theorem zW.to {D : va_G} {B0 : Nat} {L L' : zL} {H : Heap} (w : zW D B0 L H) (h : ∀ (k i : Nat), L' k i = L k i) : zW D B0 L' H := w.less (fun k i q hq => by rw [← h]; exact hq)
/-! what the class's own tables hold -/
def CG (S : zS) (G : zG) : Prop := (∀ r : Nat, r < 32 → G 11 0 r = 0 ∨ G 11 0 r = 1) ∧ (∀ r : Nat, r < 31 → G 11 0 r = 1 → ∀ d : Nat, d < 51 → G 9 0 (51 * r + d) = mt (S 3 0) (S 1 0) (S 4 0) (r : Int) d) ∧ (∀ d : Nat, d < 51 → G 2 0 d = tk (S 3 0) (d : Int) (S 1 0)) ∧
  True ∧
  (∀ t : Nat, (t : Int) < S 8 0 → ∀ q r : Nat, q < 8 → r < 8 → G 13 t (8 * q + r) = -1 ∨ ((q : Int) < S 5 0 ∧ (r : Int) < S 5 0 ∧ G 13 t (8 * q + r) = ET S q r t)) ∧
  (S 17 0 = 1 → ∀ i : Nat, (i : Int) < S 5 0 → S 7 i = 0 → G 10 i 0 = S 18 i) ∧ (∀ i : Nat, -5000 ≤ G 10 i 0 ∧ G 10 i 0 ≤ 5000)
/-! the layers in it -/
def TL (S : zS) (G : zG) : zS := fun k => match k with
  | 0 => fun _ => S 1 0
  | 1 => fun _ => S 2 0
  | 2 => fun _ => S 4 0
  | 3 => G 2 0
  | 4 => G 3 0
  | 5 => G 9 0
  | 6 => G 11 0
  | _ => fun _ => 0
def hL (a : Nat → Nat → Nat) : Nat → Nat := fun k => match k with
  | 0 => a 1 0
  | 3 => a 2 0
  | 4 => a 3 0
  | 5 => a 9 0
  | 6 => a 11 0
  | _ => 0
def gL (G : zG) (T : zS) : zG := fun k => match k with
  | 2 => fun i => match i with
    | 0 => T 3
    | i + 1 => G 2 (i + 1)
  | 3 => fun i => match i with
    | 0 => T 4
    | i + 1 => G 3 (i + 1)
  | 9 => fun i => match i with
    | 0 => T 5
    | i + 1 => G 9 (i + 1)
  | 11 => fun i => match i with
    | 0 => T 6
    | i + 1 => G 11 (i + 1)
  | k => G k
theorem gL_k {G : zG} {T : zS} {k : Nat} (h2 : k ≠ 2) (h3 : k ≠ 3) (h9 : k ≠ 9) (h11 : k ≠ 11) : gL G T k = G k := by
  unfold gL
  split
  · omega
  · omega
  · omega
  · omega
  · rfl
theorem zl_at {Y R L : zL} (h1 : ∀ i, L 1 i = Y 1 i) (h2 : ∀ i, L 2 i = Y 2 i) (h3 : ∀ i, L 3 i = Y 3 i) (h9 : ∀ i, L 9 i = Y 9 i) (h11 : ∀ i, L 11 i = Y 11 i) (h : ∀ k i, k ≠ 1 → k ≠ 2 → k ≠ 3 → k ≠ 9 → k ≠ 11 → L k i = R k i) (k i : Nat) : L k i = zl Y R k i := by
  by_cases a1 : k = 1
  · subst a1
    exact h1 i
  by_cases a2 : k = 2
  · subst a2
    exact h2 i
  by_cases a3 : k = 3
  · subst a3
    exact h3 i
  by_cases a9 : k = 9
  · subst a9
    exact h9 i
  by_cases a11 : k = 11
  · subst a11
    exact h11 i
  rw [h k i a1 a2 a3 a9 a11, zl_no a1 a2 a3 a9 a11]
theorem cl_in {D : va_G} {B0 : Nat} {M : zL} {cA : Nat → ClassId} {a : Nat → Nat → Nat} {G : zG} {S : zS} {H0 H : Heap} {locs : List Loc} (X : zX D B0 (zj (layC cA a G S) M) H0 H locs) : zX D B0 (zl (layL cA (hL a) (TL S G)) (zj (layC cA a G S) M)) H0 H locs :=
  X.to (fun k i => (zl_at (Y := layL cA (hL a) (TL S G)) (R := zj (layC cA a G S) M) (L := zj (layC cA a G S) M) (fun _ => rfl) (fun _ => rfl) (fun _ => rfl) (fun _ => rfl) (fun _ => rfl) (fun _ _ _ _ _ _ _ => rfl) k i).symm)
theorem cl_out {D : va_G} {B0 : Nat} {M : zL} {cA : Nat → ClassId} {a : Nat → Nat → Nat} {G : zG} {S S' T : zS} {H0 H : Heap} {locs : List Loc} (X : zX D B0 (zl (layL cA (hL a) T) (zj (layC cA a G S) M)) H0 H locs) (h1 : S' 1 0 = T 0 0) (h2 : S' 2 0 = T 1 0) (h4 : S' 4 0 = T 2 0) (hs : ∀ k : Nat, k ≠ 1 → k ≠ 2 → k ≠ 3 → k ≠ 4 → S' k = S k) : zX D B0 (zj (layC cA a (gL G T) S') M) H0 H locs := by
  refine X.to (zl_at (fun i => ?_) (fun _ => rfl) (fun _ => rfl) (fun _ => rfl) (fun _ => rfl) (fun k i n1 n2 n3 n9 n11 => zj_C ?_))
  · show (if i = 0 then some (a 1 0, Sum.inr (1, yfs a S')) else none) = (if i = 0 then some (a 1 0, Sum.inr (1, lfs (hL a) T)) else none)
    have e : yfs a S' = lfs (hL a) T := by
      simp only [yfs, lfs, h1, h2, h4]
      rfl
    rw [e]
  · have e5 := hs 5 (by decide) (by decide) (by decide) (by decide)
    have e6 := hs 6 (by decide) (by decide) (by decide) (by decide)
    have e7 := hs 7 (by decide) (by decide) (by decide) (by decide)
    have e8 := hs 8 (by decide) (by decide) (by decide) (by decide)
    have e9 := hs 9 (by decide) (by decide) (by decide) (by decide)
    have e10 := hs 10 (by decide) (by decide) (by decide) (by decide)
    have e11 := hs 11 (by decide) (by decide) (by decide) (by decide)
    have e12 := hs 12 (by decide) (by decide) (by decide) (by decide)
    have e13 := hs 13 (by decide) (by decide) (by decide) (by decide)
    have e17 := hs 17 (by decide) (by decide) (by decide) (by decide)
    have e19 := hs 19 (by decide) (by decide) (by decide) (by decide)
    have e20 := hs 20 (by decide) (by decide) (by decide) (by decide)
    have e21 := hs 21 (by decide) (by decide) (by decide) (by decide)
    have e22 := hs 22 (by decide) (by decide) (by decide) (by decide)
    have e23 := hs 23 (by decide) (by decide) (by decide) (by decide)
    have e24 := hs 24 (by decide) (by decide) (by decide) (by decide)
    have e25 := hs 25 (by decide) (by decide) (by decide) (by decide)
    have e27 := hs 27 (by decide) (by decide) (by decide) (by decide)
    unfold layC
    split <;> first | rfl | (exfalso; omega) | simp only [cfs, efs, tfs, ofs, sfs, e5, e6, e7, e8, e9, e10, e11, e12, e13, e17, e19, e20, e21, e22, e23, e24, e25, e27, gL]
theorem LI_of {S : zS} {G : zG} (hI : SI S) (hG : CG S G) : LI (TL S G) (S 3 0) := by
  have h := hI.1
  unfold SI0 at h
  exact ⟨h.1, h.2.1, h.2.2.2.1, hG.1, hG.2.1, hG.2.2.1⟩
theorem CG_back {S T : zS} {G : zG} (hG : CG S G) (hL : LI T (S 3 0)) (h0 : T 0 0 = S 1 0) (h2 : T 2 0 = S 4 0) : CG S (gL G T) := by
  obtain ⟨-, -, -, l4, l5, l6⟩ := hL
  obtain ⟨-, -, -, g4, g5, g6, g7⟩ := hG
  refine ⟨l4, fun r hr h1 d hd => ?_, fun d hd => ?_, g4, g5, g6, g7⟩
  · have := l5 r hr h1 d hd
    rw [h2, h0] at this
    exact this
  · have := l6 d hd
    rw [h0] at this
    exact this
/-- behind a call of the layers: the tables moved, the state stands -/
theorem cl_back {D : va_G} {B0 : Nat} {M : zL} {cA : Nat → ClassId} {a : Nat → Nat → Nat} {G : zG} {S T : zS} {H0 H : Heap} {locs : List Loc} (hG : CG S G) (X : zX D B0 (zl (layL cA (hL a) T) (zj (layC cA a G S) M)) H0 H locs) (hL : LI T (S 3 0)) (hs : ∀ q : Nat, q ≠ 4 → q ≠ 5 → q ≠ 6 → T q = TL S G q) : ∃ G' : zG, CG S G' ∧ (∀ k : Nat, k ≠ 2 → k ≠ 3 → k ≠ 9 → k ≠ 11 → G' k = G k) ∧ zX D B0 (zj (layC cA a G' S) M) H0 H locs := by
  have e0 : T 0 0 = S 1 0 := by rw [hs 0 (by decide) (by decide) (by decide)]; rfl
  have e1 : T 1 0 = S 2 0 := by rw [hs 1 (by decide) (by decide) (by decide)]; rfl
  have e2 : T 2 0 = S 4 0 := by rw [hs 2 (by decide) (by decide) (by decide)]; rfl
  exact ⟨gL G T, CG_back hG hL e0 e2, fun k a b c d => gL_k a b c d, cl_out X e0.symm e1.symm e2.symm (fun _ _ _ _ _ => rfl)⟩
theorem TM_fb {S : zS} {q x y : Nat} (h : 0 ≤ S 6 q) : TM S q x y = minb (fb (S 6 q).toNat x (S 3 0) (S 1 0) (S 4 0) ((y : Int) - S 1 0)) 50 ∧ BD S q x y = argb (fb (S 6 q).toNat x (S 3 0) (S 1 0) (S 4 0) ((y : Int) - S 1 0)) 50 := by
  have e : tw S q x y = fb (S 6 q).toNat x (S 3 0) (S 1 0) (S 4 0) ((y : Int) - S 1 0) := by
    funext b
    unfold tw fb
    rw [show (((S 6 q).toNat : Nat) : Int) = S 6 q by omega]
  unfold TM BD
  rw [e]
  exact ⟨rfl, rfl⟩
theorem z3_ne {G : zG} {k i j k' : Nat} {z : Int} (h : k' ≠ k) : z3 G k i j z k' = G k' := by
  unfold z3
  rw [show Nat.beq k' k = false by
    cases hb : Nat.beq k' k with
    | false => rfl
    | true => exact absurd (Nat.eq_of_beq_eq_true hb) h]
  rfl
theorem z3_eq {G : zG} {k i j : Nat} {z : Int} : z3 G k i j z k = (fun i' => if i' = i then zg (G k i) j z else G k i') := by
  unfold z3
  rw [show Nat.beq k k = true from Nat.beq_refl k]
  rfl
theorem CG_echo {S : zS} {G : zG} {t q r : Nat} (hG : CG S G) (hq : q < 8) (hr : r < 8) (hq2 : (q : Int) < S 5 0) (hr2 : (r : Int) < S 5 0) : CG S (z3 G 13 t (8 * q + r) (ET S q r t)) := by
  obtain ⟨g1, g2, g3, g4, g5, g6, g7⟩ := hG
  refine ⟨g1, g2, g3, g4, fun i hi q' r' h1 h2 => ?_, g6, g7⟩
  rw [z3_eq]
  by_cases h : i = t
  · subst h
    simp only [if_true]
    unfold zg
    split
    · rename_i e
      obtain ⟨e1, e2⟩ : q' = q ∧ r' = r := by omega
      subst e1
      subst e2
      exact Or.inr ⟨hq2, hr2, rfl⟩
    · exact g5 i hi q' r' h1 h2
  · simp only [if_neg h]
    exact g5 i hi q' r' h1 h2
def cut (c : Int) (f : Nat → Int) (q : Nat) : Int := if (q : Int) < c then f q else 0
theorem cut_all {f : Nat → Int} {c : Int} : ∀ {n : Nat}, (n : Int) ≤ c → sumn (cut c f) n = sumn f n := by
  intro n h
  refine sumn_cong (fun k hk => if_pos (by omega))
theorem cut_end {f : Nat → Int} {c : Int} (h0 : 0 ≤ c) : ∀ {n : Nat}, c ≤ n → sumn (cut c f) n = sumn f c.toNat := by
  intro n
  induction n with
  | zero =>
    intro h
    rw [show c.toNat = 0 by omega]
    rfl
  | succ n ih =>
    intro h
    rcases Int.lt_or_le (n : Int) c with q | q
    · rw [cut_all (by omega), show c.toNat = n + 1 by omega]
    · rw [sumn_S, ih q, cut, if_neg (by omega)]
      omega
theorem cut_S {f : Nat → Int} {c : Int} {n : Nat} : sumn (cut c f) (n + 1) = sumn (cut c f) n + (if (n : Int) < c then f n else 0) := rfl
theorem cw_findings {D : va_G} {B0 : Nat} {M : zL} {cA : Nat → ClassId} {a : Nat → Nat → Nat} {G : zG} {S : zS} {H0 H : Heap} {locs : List Loc} {x : Int}  (X : zX D B0 (zu (zj (layC cA a G S) M) 0 0 (some (a 0 0, .inr (5, (cfs a S).set 9 (.int (i32 x)))))) H0 H locs) : zX D B0 (zj (layC cA a G (zs S 27 0 x)) M) H0 H locs := by
  refine X.to (zu_to rfl (fun k i hh => zj_C ?_))
  unfold layC
  split <;> try rfl
  all_goals (by_cases hi : i = 0)
  all_goals first | (exfalso; exact hh ⟨rfl, hi⟩) | simp [hi]
theorem cw_focused {D : va_G} {B0 : Nat} {M : zL} {cA : Nat → ClassId} {a : Nat → Nat → Nat} {G : zG} {S : zS} {H0 H : Heap} {locs : List Loc} {x : Int}  (X : zX D B0 (zu (zj (layC cA a G S) M) 0 0 (some (a 0 0, .inr (5, (cfs a S).set 10 (.int (i32 x)))))) H0 H locs) : zX D B0 (zj (layC cA a G (zs S 17 0 x)) M) H0 H locs := by
  refine X.to (zu_to rfl (fun k i hh => zj_C ?_))
  unfold layC
  split <;> try rfl
  all_goals (by_cases hi : i = 0)
  all_goals first | (exfalso; exact hh ⟨rfl, hi⟩) | simp [hi]
