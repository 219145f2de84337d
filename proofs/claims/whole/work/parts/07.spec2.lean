def SI2 (S : zS) : Prop := ∀ j : Nat, (j : Int) < S 8 0 → (0 ≤ S 9 j ∧ S 9 j ≤ 2) ∧ (0 ≤ S 10 j ∧ S 10 j ≤ S 11 j ∧ S 11 j ≤ 50) ∧ (S 9 j ≠ 2 → S 1 0 ≤ S 12 j ∧ S 12 j ≤ S 1 0 + S 2 0) ∧ (-1000 ≤ S 13 j ∧ S 13 j ≤ 1000)
def SI3 (S : zS) : Prop := ∀ j : Nat, (j : Int) < S 19 0 → (0 ≤ S 20 j ∧ S 20 j < S 5 0) ∧ (0 ≤ S 21 j ∧ S 21 j < S 5 0) ∧ (0 ≤ S 22 j ∧ S 22 j ≤ 4000)
def SI4 (S : zS) : Prop := (∀ j : Nat, j < 6 → (-1 ≤ S 23 j ∧ S 23 j ≤ 64) ∧ (0 ≤ S 24 j ∧ S 24 j ≤ 2)) ∧ ∀ j : Nat, zr (S 25 j)
def SI5 (S : zS) : Prop := ∀ j : Nat, -5000 ≤ S 18 j ∧ S 18 j ≤ 5000
def SI (S : zS) : Prop := SI0 S ∧ SI1 S ∧ SI2 S ∧ SI3 S ∧ SI4 S ∧ SI5 S
/-! what the calls answer -/
def dep (S : zS) (t : Nat) : Int := if S 9 t = 2 then S 1 0 + S 2 0 else S 12 t
def LST (S : zS) (a b x n y : Nat) : Int := minb (fun d => TM S a (x + d) y + TM S b (x + d) y) n
def ET (S : zS) (a b t : Nat) : Int := LST S a b (S 10 t).toNat (S 11 t - S 10 t).toNat (dep S t).toNat
def EC (S : zS) (a b : Nat) (tick : Int) : Int := if S 7 a = 0 ∧ S 7 b = 0 then sumn (fun t => if ET S a b t = tick then S 13 t else 0) (S 8 0).toNat else 0
def HD (S : zS) (q : Nat) (tick : Int) : Int := sumn (fun i => if S 7 i = 0 then EC S i q (tick - S 18 i) else 0) (S 5 0).toNat
def SM (S : zS) (tick : Int) : Int := sumn (fun q => if S 7 q = 0 then HD S q (tick - S 18 q) else 0) (S 5 0).toNat
def BO (S : zS) (x y : Nat) : Int := sumn (fun a => sumn (fun b => EC S a b (TM S a x y + TM S b x y)) (S 5 0).toNat) (S 5 0).toNat
def WK (S : zS) : Int := sumn (fun q => 1 - S 7 q) (S 5 0).toNat
def alln (f : Nat → Bool) : Nat → Bool
  | 0 => true
  | n + 1 => alln f n && f n
def cntb (f : Nat → Bool) : Nat → Nat
  | 0 => 0
  | n + 1 => cntb f n + (if f n then 1 else 0)
def fnd (f : Nat → Bool) : Nat → Option Nat
  | 0 => none
  | n + 1 => match fnd f n with
    | some k => some k
    | none => if f n then some n else none
def nearb (S : zS) (wi : Int) (x y : Nat) : Bool := alln (fun k => decide (-wi ≤ TM S (S 20 k).toNat x y + TM S (S 21 k).toNat x y - S 22 k ∧ TM S (S 20 k).toNat x y + TM S (S 21 k).toNat x y - S 22 k ≤ wi)) (S 19 0).toNat
/-- the c-th place of the plate, by depth, then x -/
def nrc (S : zS) (wi : Int) (k : Nat) : Bool := nearb S wi (k % 51) ((S 1 0).toNat + k / 51)
def NP (S : zS) : Nat := 51 * ((S 2 0).toNat + 1)
def PL (S : zS) (wi : Int) : Int := (cntb (nrc S wi) (NP S) : Nat)
def PLI (S : zS) (wi i : Int) : Int := match fnd (fun k => nrc S wi k && decide ((cntb (nrc S wi) k : Int) = i)) (NP S) with
  | some k => 1000 * ((k % 51 : Nat) : Int) + (((S 1 0).toNat + k / 51 : Nat) : Int)
  | none => -99999
theorem dep_rng {S : zS} {t : Nat} (hI : SI S) (ht : (t : Int) < S 8 0) : S 1 0 ≤ dep S t ∧ dep S t ≤ S 1 0 + S 2 0 ∧ 0 ≤ dep S t ∧ dep S t ≤ 50 := by
  obtain ⟨h0, -, h2, -⟩ := hI
  unfold SI0 at h0
  obtain ⟨b1, b2, -⟩ := h0
  have h := (h2 t ht).2.2.1
  unfold dep
  split
  · omega
  · rename_i q
    have := h q
    omega
theorem LST_rng {S : zS} {a b x n y : Nat} (hI : SI S) (ha : (a : Int) < S 5 0) (hb : (b : Int) < S 5 0) (hx : x + n ≤ 50) (hy : S 1 0 ≤ y ∧ (y : Int) ≤ S 1 0 + S 2 0) : 0 ≤ LST S a b x n y ∧ LST S a b x n y ≤ 4092 := by
  have h : ∀ k, k ≤ n → 0 ≤ TM S a (x + k) y + TM S b (x + k) y ∧ TM S a (x + k) y + TM S b (x + k) y ≤ 4092 := fun k hk => by
    have h1 := TM_rng (x := x + k) hI.1 hI.2.1 ha (by omega) hy
    have h2 := TM_rng (x := x + k) hI.1 hI.2.1 hb (by omega) hy
    omega
  exact ⟨minb_ge (fun k hk => (h k hk).1), Int.le_trans (minb_le (k := 0) (Nat.zero_le _)) (h 0 (Nat.zero_le _)).2⟩
theorem ET_rng {S : zS} {a b t : Nat} (hI : SI S) (ha : (a : Int) < S 5 0) (hb : (b : Int) < S 5 0) (ht : (t : Int) < S 8 0) : 0 ≤ ET S a b t ∧ ET S a b t ≤ 4092 := by
  have h1 := dep_rng hI ht
  have h2 := (hI.2.2.1 t ht).2.1
  exact LST_rng hI ha hb (by omega) (by omega)
theorem EC_rng {S : zS} {a b : Nat} {tick : Int} (hI : SI S) : -8000 ≤ EC S a b tick ∧ EC S a b tick ≤ 8000 := by
  obtain ⟨h0, -, h2, -⟩ := hI
  unfold SI0 at h0
  obtain ⟨-, -, -, -, -, b8, -⟩ := h0
  unfold EC
  split
  · have h := sumn_rng (f := fun t => if ET S a b t = tick then S 13 t else 0) (m := 1000) (by decide) (n := (S 8 0).toNat) (fun k hk => by
      have h3 := (h2 k (by omega)).2.2.2
      by_cases q : ET S a b k = tick
      · simp only [if_pos q]; omega
      · simp only [if_neg q]; omega)
    omega
  · omega
theorem minb_S {f : Nat → Int} {n : Nat} : minb f (n + 1) = if f (n + 1) < minb f n then f (n + 1) else minb f n := rfl
theorem z_ishr1 {p : Program} {l : Launch} {e : Env} {R : Room} {s : State} {m : MethodId} {args : Array Value} {below : List Frame} {meth : Method} {c : Code} {H : Heap} {locs : List Loc} {cells slots pc : Nat} {Q : State → Prop} {ls : Array Slot} {rest : List Value} {cc : ByteArray} {own nm : String} {ws : List Cond} {ml : Nat} {ret : Option FieldType} {D : va_G} {cA : Nat → ClassId} (E : zE p s m args meth c cc own nm ws ml ret D cA) {q : Int} (h0 : 0 ≤ q) (h1 : q < 2147483648) (d : decode cc pc = .ok (.ishr, 1)) (k : W p l e R s m args below meth c H locs cells slots Q (F0 m (pc + 1) ls (.int (i32 (q / 2)) :: rest))) : W p l e R s m args below meth c H locs cells slots Q (F0 m pc ls (.int (i32 1) :: .int (i32 q) :: rest)) := by
  refine lv_ishr E.1 E.2.1 d ?_
  obtain ⟨n, rfl⟩ : ∃ n : Nat, q = (n : Int) := ⟨q.toNat, by omega⟩
  have e1 : i32 (n : Int) >>> (i32 1 &&& 31) = i32 ((n : Int) / 2) := by
    rw [← nI_i, pk_shrN (by omega) _ 1 (by decide +kernel), nI_i]
    congr 1
  rw [e1]
  exact k
