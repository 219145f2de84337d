def SI2 (S : zS) : Prop := ∀ j : Nat, (j : Int) < S 8 0 → (0 ≤ S 9 j ∧ S 9 j ≤ 2) ∧ (0 ≤ S 10 j ∧ S 10 j ≤ S 11 j ∧ S 11 j ≤ 50) ∧ (S 9 j ≠ 2 → S 1 0 ≤ S 12 j ∧ S 12 j ≤ S 1 0 + S 2 0) ∧ (-1000 ≤ S 13 j ∧ S 13 j ≤ 1000)
def SI3 (S : zS) : Prop := ∀ j : Nat, (j : Int) < S 19 0 → (0 ≤ S 20 j ∧ S 20 j < S 5 0) ∧ (0 ≤ S 21 j ∧ S 21 j < S 5 0) ∧ (0 ≤ S 22 j ∧ S 22 j ≤ 4000)
def SI4 (S : zS) : Prop := (∀ j : Nat, j < 6 → (-1 ≤ S 23 j ∧ S 23 j ≤ 64) ∧ (0 ≤ S 24 j ∧ S 24 j ≤ 2)) ∧ ∀ j : Nat, zr (S 25 j)
def SI5 (S : zS) : Prop := ∀ j : Nat, -5000 ≤ S 18 j ∧ S 18 j ≤ 5000
def SI (S : zS) : Prop := SI0 S ∧ SI1 S ∧ SI2 S ∧ SI3 S ∧ SI4 S ∧ SI5 S
/-! what the calls answer -/
def dep (S : zS) (t : Nat) : Int := if S 9 t = 2 then S 1 0 + S 2 0 else S 12 t
def fd (S : zS) (a b x y : Nat) (d : Nat) : Int := TM S a (x + d) y + TM S b (x + d) y
def LST (S : zS) (a b x n y : Nat) : Int := minb (fd S a b x y) n
def ET (S : zS) (a b t : Nat) : Int := LST S a b (S 10 t).toNat (S 11 t - S 10 t).toNat (dep S t).toNat
def fec (S : zS) (a b : Nat) (tick : Int) (t : Nat) : Int := if ET S a b t = tick then S 13 t else 0
def EC (S : zS) (a b : Nat) (tick : Int) : Int := if S 7 a = 0 ∧ S 7 b = 0 then sumn (fec S a b tick) (S 8 0).toNat else 0
def fhd (S : zS) (q : Nat) (tick : Int) (i : Nat) : Int := if S 7 i = 0 then EC S i q (tick - S 18 i) else 0
def HD (S : zS) (q : Nat) (tick : Int) : Int := sumn (fhd S q tick) (S 5 0).toNat
def fsm (S : zS) (tick : Int) (q : Nat) : Int := if S 7 q = 0 then HD S q (tick - S 18 q) else 0
def SM (S : zS) (tick : Int) : Int := sumn (fsm S tick) (S 5 0).toNat
def fbo (S : zS) (x y a : Nat) (b : Nat) : Int := EC S a b (TM S a x y + TM S b x y)
def fbo2 (S : zS) (x y : Nat) (a : Nat) : Int := sumn (fbo S x y a) (S 5 0).toNat
def BO (S : zS) (x y : Nat) : Int := sumn (fbo2 S x y) (S 5 0).toNat
def WK (S : zS) : Int := sumn (fun q => 1 - S 7 q) (S 5 0).toNat
def alln (f : Nat → Bool) : Nat → Bool
  | 0 => true
  | n + 1 => alln f n && f n
def cntb (f : Nat → Bool) : Nat → Nat
  | 0 => 0
  | n + 1 => cntb f n + (if f n then 1 else 0)
def fnd (f : Nat → Bool) : Nat → Option Nat
  | 0 => none
  | n + 1 => match fnd f n with
    | some k => some k
    | none => if f n then some n else none
def far (S : zS) (x y k : Nat) : Int := TM S (S 20 k).toNat x y + TM S (S 21 k).toNat x y - S 22 k
def fnb (S : zS) (wi : Int) (x y : Nat) (k : Nat) : Bool := decide (-wi ≤ far S x y k ∧ far S x y k ≤ wi)
def nearb (S : zS) (wi : Int) (x y : Nat) : Bool := alln (fnb S wi x y) (S 19 0).toNat
/-- the c-th place of the plate, by depth, then x -/
def nrc (S : zS) (wi : Int) (k : Nat) : Bool := nearb S wi (k % 51) ((S 1 0).toNat + k / 51)
def NP (S : zS) : Nat := 51 * ((S 2 0).toNat + 1)
def PL (S : zS) (wi : Int) : Int := (cntb (nrc S wi) (NP S) : Nat)
def fpl (S : zS) (wi i : Int) (k : Nat) : Bool := nrc S wi k && decide ((cntb (nrc S wi) k : Int) = i)
def PLI (S : zS) (wi i : Int) : Int := match fnd (fpl S wi i) (NP S) with
  | some k => 1000 * ((k % 51 : Nat) : Int) + (((S 1 0).toNat + k / 51 : Nat) : Int)
  | none => -99999
theorem dep_rng {S : zS} {t : Nat} (hI : SI S) (ht : (t : Int) < S 8 0) : S 1 0 ≤ dep S t ∧ dep S t ≤ S 1 0 + S 2 0 ∧ 0 ≤ dep S t ∧ dep S t ≤ 50 := by
  obtain ⟨h0, -, h2, -⟩ := hI
  unfold SI0 at h0
  obtain ⟨b1, b2, -⟩ := h0
  have h := (h2 t ht).2.2.1
  unfold dep
  split
  · omega
  · rename_i q
    have := h q
    omega
theorem LST_rng {S : zS} {a b x n y : Nat} (hI : SI S) (ha : (a : Int) < S 5 0) (hb : (b : Int) < S 5 0) (hx : x + n ≤ 50) (hy : S 1 0 ≤ y ∧ (y : Int) ≤ S 1 0 + S 2 0) : 0 ≤ LST S a b x n y ∧ LST S a b x n y ≤ 4092 := by
  have h : ∀ k, k ≤ n → 0 ≤ fd S a b x y k ∧ fd S a b x y k ≤ 4092 := fun k hk => by
    have h1 := TM_rng (x := x + k) hI.1 hI.2.1 ha (by omega) hy
    have h2 := TM_rng (x := x + k) hI.1 hI.2.1 hb (by omega) hy
    unfold fd
    omega
  exact ⟨minb_ge (fun k hk => (h k hk).1), Int.le_trans (minb_le (k := 0) (Nat.zero_le _)) (h 0 (Nat.zero_le _)).2⟩
theorem ET_rng {S : zS} {a b t : Nat} (hI : SI S) (ha : (a : Int) < S 5 0) (hb : (b : Int) < S 5 0) (ht : (t : Int) < S 8 0) : 0 ≤ ET S a b t ∧ ET S a b t ≤ 4092 := by
  have h1 := dep_rng hI ht
  have h2 := (hI.2.2.1 t ht).2.1
  exact LST_rng hI ha hb (by omega) (by omega)
theorem EC_rng {S : zS} {a b : Nat} {tick : Int} (hI : SI S) : -8000 ≤ EC S a b tick ∧ EC S a b tick ≤ 8000 := by
  obtain ⟨h0, -, h2, -⟩ := hI
  unfold SI0 at h0
  obtain ⟨-, -, -, -, -, b8, -⟩ := h0
  unfold EC
  split
  · have h := sumn_rng (f := fec S a b tick) (m := 1000) (by decide) (n := (S 8 0).toNat) (fun k hk => by
      have h3 := (h2 k (by omega)).2.2.2
      unfold fec
      split <;> omega)
    omega
  · omega
theorem minb_S {f : Nat → Int} {n : Nat} : minb f (n + 1) = if f (n + 1) < minb f n then f (n + 1) else minb f n := rfl
theorem z_ishr1 {p : Program} {l : Launch} {e : Env} {R : Room} {s : State} {m : MethodId} {args : Array Value} {below : List Frame} {meth : Method} {c : Code} {H : Heap} {locs : List Loc} {cells slots pc : Nat} {Q : State → Prop} {ls : Array Slot} {rest : List Value} {cc : ByteArray} {own nm : String} {ws : List Cond} {ml : Nat} {ret : Option FieldType} {D : va_G} {cA : Nat → ClassId} (E : zE p s m args meth c cc own nm ws ml ret D cA) {q : Int} (h0 : 0 ≤ q) (h1 : q < 2147483648) (d : decode cc pc = .ok (.ishr, 1)) (k : W p l e R s m args below meth c H locs cells slots Q (F0 m (pc + 1) ls (.int (i32 (q / 2)) :: rest))) : W p l e R s m args below meth c H locs cells slots Q (F0 m pc ls (.int (i32 1) :: .int (i32 q) :: rest)) := by
  refine lv_ishr E.1 E.2.1 d ?_
  obtain ⟨n, rfl⟩ : ∃ n : Nat, q = (n : Int) := ⟨q.toNat, by omega⟩
  have e1 : i32 (n : Int) >>> (i32 1 &&& 31) = i32 ((n : Int) / 2) := by
    rw [← nI_i, pk_shrN (by omega) _ 1 (by decide +kernel), nI_i]
    congr 1
  rw [e1]
  exact k
theorem sumn_S {f : Nat → Int} {n : Nat} : sumn f (n + 1) = sumn f n + f n := rfl
theorem EC_full {S : zS} {a b n : Nat} {tick : Int} (hn : S 8 0 ≤ n) (hle : (n : Int) ≤ S 8 0) (h : 0 < n → S 7 a = 0 ∧ S 7 b = 0) : sumn (fec S a b tick) n = EC S a b tick := by
  have e : (S 8 0).toNat = n := by omega
  unfold EC
  rw [e]
  split
  · rfl
  · rename_i q
    cases n with
    | zero => rfl
    | succ n => exact absurd (h (Nat.succ_pos n)) q
theorem EC_lost {S : zS} {a b n : Nat} {tick : Int} (hl : ¬ (S 7 a = 0 ∧ S 7 b = 0)) (h : 0 < n → S 7 a = 0 ∧ S 7 b = 0) : sumn (fec S a b tick) n = EC S a b tick := by
  unfold EC
  rw [if_neg hl]
  cases n with
  | zero => rfl
  | succ n => exact absurd (h (Nat.succ_pos n)) hl
theorem alln_S {f : Nat → Bool} {n : Nat} : alln f (n + 1) = (alln f n && f n) := rfl
theorem alln_no {f : Nat → Bool} {n : Nat} (hf : f n = false) : ∀ {N : Nat}, n < N → alln f N = false := by
  intro N
  induction N with
  | zero => exact fun h => absurd h (Nat.not_lt_zero n)
  | succ N ih =>
    intro h
    rw [alln_S]
    rcases Nat.lt_or_ge n N with q | q
    · rw [ih q]
      rfl
    · have e : N = n := by omega
      rw [e, hf, Bool.and_false]
theorem fnd_at {f : Nat → Bool} {n : Nat} (hn : fnd f n = none) (hf : f n = true) : ∀ {N : Nat}, n < N → fnd f N = some n := by
  intro N
  induction N with
  | zero => exact fun h => absurd h (Nat.not_lt_zero n)
  | succ N ih =>
    intro h
    unfold fnd
    rcases Nat.lt_or_ge n N with q | q
    · rw [ih q]
    · have e : N = n := by omega
      rw [e, hn]
      simp [hf]
theorem fnd_S {f : Nat → Bool} {n : Nat} (hn : fnd f n = none) (hf : f n = false) : fnd f (n + 1) = none := by
  unfold fnd
  rw [hn]
  simp [hf]
theorem cntb_S {f : Nat → Bool} {n : Nat} : cntb f (n + 1) = cntb f n + (if f n then 1 else 0) := rfl
theorem cntb_y {f : Nat → Bool} {n : Nat} (h : f n = true) : cntb f (n + 1) = cntb f n + 1 := by rw [cntb_S, h]; rfl
theorem cntb_n {f : Nat → Bool} {n : Nat} (h : f n = false) : cntb f (n + 1) = cntb f n := by rw [cntb_S, h]; rfl
theorem cntb_le {f : Nat → Bool} : ∀ (n : Nat), cntb f n ≤ n := by
  intro n
  induction n with
  | zero => exact Nat.le_refl 0
  | succ n ih =>
    rw [cntb_S]
    split <;> omega
def NRR (S : zS) (wi i : Int) : Int := if i = -2 then PL S wi else PLI S wi i
theorem nrc_at {S : zS} {wi : Int} {r x : Nat} (hx : x < 51) : nrc S wi (51 * r + x) = nearb S wi x ((S 1 0).toNat + r) := by
  unfold nrc
  rw [show (51 * r + x) % 51 = x by omega, show (51 * r + x) / 51 = r by omega]
theorem NRR_hit {S : zS} {wi i : Int} {r x : Nat} (hx : x < 51) (hr : (r : Int) ≤ S 2 0) (hp : 0 ≤ S 2 0) (hf : fnd (fpl S wi i) (51 * r + x) = none) (hn : nearb S wi x ((S 1 0).toNat + r) = true) (hi : (cntb (nrc S wi) (51 * r + x) : Int) = i) : NRR S wi i = 1000 * (x : Int) + (((S 1 0).toNat + r : Nat) : Int) := by
  have h1 : fpl S wi i (51 * r + x) = true := by
    unfold fpl
    rw [nrc_at hx, hn, hi]
    simp
  unfold NRR
  rw [if_neg (by omega)]
  unfold PLI
  rw [fnd_at hf h1 (N := NP S) (by unfold NP; omega)]
  show 1000 * (((51 * r + x) % 51 : Nat) : Int) + (((S 1 0).toNat + (51 * r + x) / 51 : Nat) : Int) = _
  rw [show (51 * r + x) % 51 = x by omega, show (51 * r + x) / 51 = r by omega]
theorem fpl_miss {S : zS} {wi i : Int} {r x : Nat} (hx : x < 51) (h : nearb S wi x ((S 1 0).toNat + r) = false ∨ ¬ (cntb (nrc S wi) (51 * r + x) : Int) = i) : fpl S wi i (51 * r + x) = false := by
  unfold fpl
  rw [nrc_at hx]
  rcases h with h | h
  · rw [h]
    rfl
  · rw [decide_eq_false h, Bool.and_false]
theorem NRR_end {S : zS} {wi i : Int} {r : Nat} (h0 : 0 ≤ S 2 0) (hr : (r : Int) = S 2 0 + 1) (hf : fnd (fpl S wi i) (51 * r) = none) : NRR S wi i = if i = -2 then (cntb (nrc S wi) (51 * r) : Int) else -99999 := by
  have e : NP S = 51 * r := by
    unfold NP
    omega
  unfold NRR PL PLI
  rw [e, hf]
/-- the nearest that a lane has -/
def LN (k : Int) : Int := if k = 0 then 127 else if k = 1 then 32767 else 2147483647
def AS (k z : Int) : Int := if LN k < z then LN k else if z < -LN k - 1 then -LN k - 1 else z
theorem AS_rng (k z : Int) : zr (AS k z) := by
  unfold AS LN zr
  repeat' split
  all_goals omega
