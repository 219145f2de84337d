/-! each call: its answer, and the state behind it -/
def okE (S : zS) (q : Int) : Prop := 0 ≤ q ∧ q < S 5 0
def okP (S : zS) (x y : Int) : Prop := 0 ≤ x ∧ x ≤ 50 ∧ S 1 0 ≤ y ∧ y ≤ S 1 0 + S 2 0
theorem okE_d (S : zS) (q : Int) : okE S q ∨ ¬ okE S q := Classical.em _
def fwp (S : zS) (w1 p1 : Int) (t : Nat) : Bool := decide (S 9 t = 2 ∨ (w1 ≤ S 12 t ∧ S 12 t ≤ w1 + p1))
def fBody (S : zS) (w1 p1 u1 v1 : Int) : Int × zS :=
  if ¬ ((0 ≤ w1 ∧ w1 ≤ 20) ∧ (1 ≤ p1 ∧ p1 ≤ 30) ∧ (1 ≤ u1 ∧ u1 ≤ 8) ∧ (1 ≤ v1 ∧ v1 ≤ 8)) then (-2, S)
  else if alln (fwp S w1 p1) (S 8 0).toNat = true then (w1 + p1, zs (zs (zs (zs (zs S 1 0 w1) 2 0 p1) 3 0 u1) 4 0 v1) 17 0 0) else (-3, S)
def fElement (S : zS) (x : Int) : Int × zS :=
  if ¬ (0 ≤ x ∧ x ≤ 50) then (-2, S) else if S 5 0 = 8 then (-4, S)
  else (S 5 0, zs (zs (zs (zs S 6 (S 5 0).toNat x) 7 (S 5 0).toNat 0) 5 0 (S 5 0 + 1)) 17 0 0)
def fLose (S : zS) (q lost : Int) : Int × zS :=
  if ¬ (0 ≤ q ∧ q < S 5 0) then (-1, S) else (WK (zs (zs S 7 q.toNat lost) 17 0 0), zs (zs S 7 q.toNat lost) 17 0 0)
def fTarget (S : zS) (k x z y st : Int) : Int × zS :=
  if ¬ ((0 ≤ k ∧ k ≤ 2) ∧ (k < 2 → 0 ≤ x ∧ x ≤ 50 ∧ S 1 0 ≤ y ∧ y ≤ S 1 0 + S 2 0) ∧ (k = 1 → x ≤ z ∧ z ≤ 50) ∧ (-1000 ≤ st ∧ st ≤ 1000)) then (-2, S)
  else if S 8 0 = 8 then (-4, S)
  else (S 8 0, zs (zs (zs (zs (zs (zs S 9 (S 8 0).toNat k) 10 (S 8 0).toNat (if k = 2 then 0 else x)) 11 (S 8 0).toNat (if k = 2 then 50 else if k = 1 then z else x)) 12 (S 8 0).toNat y) 13 (S 8 0).toNat st) 8 0 (S 8 0 + 1))
def fDrop (S : zS) : Int × zS := if S 8 0 = 0 then (-3, S) else (S 8 0 - 1, zs S 8 0 (S 8 0 - 1))
def fFind (S : zS) (z : Int) : Int × zS := (z, zs S 27 0 (S 27 0 + 1))
def fTaken (S : zS) (t k w1 : Int) : Int × zS :=
  if ¬ (0 ≤ t ∧ t < S 8 0) then (-1, S)
  else if ¬ ((0 ≤ k ∧ k ≤ 2) ∧ (0 ≤ w1 ∧ (k = 0 → w1 ≤ 2) ∧ w1 ≤ 3)) then (-2, S)
  else if S 9 t.toNat < k then fFind S (-13)
  else (if w1 = 0 then S 13 t.toNat else if w1 = 1 then S 10 t.toNat else if w1 = 2 then dep S t.toNat else S 11 t.toNat, S)
def fTime (S : zS) (q x y : Int) : Int × zS :=
  if ¬ (0 ≤ q ∧ q < S 5 0) then (-1, S) else if ¬ (0 ≤ x ∧ x ≤ 50 ∧ S 1 0 ≤ y ∧ y ≤ S 1 0 + S 2 0) then (-2, S) else (TM S q.toNat x.toNat y.toNat, S)
def fBend (S : zS) (q x y : Int) : Int × zS :=
  if ¬ (0 ≤ q ∧ q < S 5 0) then (-1, S) else if ¬ (0 ≤ x ∧ x ≤ 50 ∧ S 1 0 ≤ y ∧ y ≤ S 1 0 + S 2 0) then (-2, S) else (BD S q.toNat x.toNat y.toNat, S)
def fEchoTime (S : zS) (q r t : Int) : Int × zS :=
  if ¬ ((0 ≤ q ∧ q < S 5 0) ∧ (0 ≤ r ∧ r < S 5 0) ∧ (0 ≤ t ∧ t < S 8 0)) then (-1, S) else (ET S q.toNat r.toNat t.toNat, S)
def slf (S : zS) (a b : Nat) (ticks : Int) (d : Nat) : Int := zabs (LST (zs S 4 0 ((d + 1 : Nat) : Int)) a b 0 50 (S 1 0 + S 2 0).toNat - ticks)
def fSlow (S : zS) (q r ticks : Int) : Int × zS :=
  if ¬ ((0 ≤ q ∧ q < S 5 0) ∧ (0 ≤ r ∧ r < S 5 0)) then (-1, S) else if ticks < 0 then (-2, S) else (argb (slf S q.toNat r.toNat ticks) 7 + 1, S)
def fEcho (S : zS) (q r tick : Int) : Int × zS :=
  if ¬ ((0 ≤ q ∧ q < S 5 0) ∧ (0 ≤ r ∧ r < S 5 0)) then (-1, S) else (EC S q.toNat r.toNat tick, S)
def gtf (S : zS) (a b : Nat) (f1 t1 l1 : Int) : Nat → Int
  | 0 => -99999
  | n + 1 => if (f1 ≤ ET S a b n ∧ ET S a b n ≤ t1) ∧ (l1 ≤ EC S a b (ET S a b n) ∨ EC S a b (ET S a b n) ≤ -l1) ∧ (gtf S a b f1 t1 l1 n = -99999 ∨ ET S a b n < gtf S a b f1 t1 l1 n) then ET S a b n else gtf S a b f1 t1 l1 n
def fGate (S : zS) (q r f1 t1 l1 : Int) : Int × zS :=
  if ¬ ((0 ≤ q ∧ q < S 5 0) ∧ (0 ≤ r ∧ r < S 5 0)) then (-1, S) else if ¬ ((0 ≤ f1 ∧ f1 ≤ t1) ∧ t1 ≤ 4000 ∧ 1 ≤ l1) then (-2, S)
  else (gtf S q.toNat r.toNat f1 t1 l1 (S 8 0).toNat, S)
def mst (S : zS) (x y : Nat) : Nat → Int
  | 0 => 0
  | n + 1 => if S 7 n = 0 ∧ mst S x y n < TM S n x y then TM S n x y else mst S x y n
def dly (S : zS) (x y : Nat) (z : Int) : Nat → zS
  | 0 => S
  | n + 1 => zs (dly S x y z n) 18 n (z - TM S n x y)
def fFocus (S : zS) (x y : Int) : Int × zS :=
  if ¬ (0 ≤ x ∧ x ≤ 50 ∧ S 1 0 ≤ y ∧ y ≤ S 1 0 + S 2 0) then (-2, S) else if WK S = 0 then (-3, S)
  else (mst S x.toNat y.toNat (S 5 0).toNat, zs (dly S x.toNat y.toNat (mst S x.toNat y.toNat (S 5 0).toNat) (S 5 0).toNat) 17 0 1)
def fDelay (S : zS) (q : Int) : Int × zS :=
  if ¬ (0 ≤ q ∧ q < S 5 0) then (-1, S) else if S 17 0 = 0 then (-3, S) else if S 7 q.toNat = 0 then (S 18 q.toNat, S) else (-99999, S)
def fHeard (S : zS) (q tick : Int) : Int × zS :=
  if ¬ (0 ≤ q ∧ q < S 5 0) then (-1, S) else if S 17 0 = 0 then (-3, S) else (HD S q.toNat tick, S)
def fSum (S : zS) (tick : Int) : Int × zS := if S 17 0 = 0 then (-3, S) else (SM S tick, S)
def fBoard (S : zS) (x y : Int) : Int × zS :=
  if ¬ (0 ≤ x ∧ x ≤ 50 ∧ S 1 0 ≤ y ∧ y ≤ S 1 0 + S 2 0) then (-2, S) else (BO S x.toNat y.toNat, S)
def fTell (S : zS) (q r tick : Int) : Int × zS :=
  if ¬ ((0 ≤ q ∧ q < S 5 0) ∧ (0 ≤ r ∧ r < S 5 0)) then (-1, S) else if ¬ (0 ≤ tick ∧ tick ≤ 4000) then (-2, S) else if S 19 0 = 6 then (-4, S)
  else (S 19 0 + 1, zs (zs (zs (zs S 20 (S 19 0).toNat q) 21 (S 19 0).toNat r) 22 (S 19 0).toNat tick) 19 0 (S 19 0 + 1))
def fForget (S : zS) : Int × zS := (S 19 0, zs S 19 0 0)
def fPlaces (S : zS) (wi : Int) : Int × zS := if ¬ (0 ≤ wi ∧ wi ≤ 100) then (-2, S) else (NRR S wi (-2), S)
def fPlace (S : zS) (wi i : Int) : Int × zS := if ¬ (0 ≤ wi ∧ wi ≤ 100) then (-2, S) else if i < 0 then (-99999, S) else (NRR S wi i, S)
def zro (S : zS) (q : Nat) : Nat → zS
  | 0 => S
  | n + 1 => zs (zro S q n) 25 (64 * q + n) 0
def fSheet (S : zS) (q k n : Int) : Int × zS :=
  if ¬ (0 ≤ q ∧ q ≤ 5) then fFind S (-12) else if ¬ ((0 ≤ k ∧ k ≤ 2) ∧ n ≤ 64) then (-2, S) else if n < 0 then fFind S (-14)
  else (n, zro (zs (zs S 23 q.toNat n) 24 q.toNat k) q.toNat n.toNat)
def fTear (S : zS) (q : Int) : Int × zS :=
  if ¬ (0 ≤ q ∧ q ≤ 5) then fFind S (-12) else (if S 23 q.toNat < 0 then 1 else 0, zs S 23 q.toNat (-1))
def rcd (S : zS) (q a b : Nat) (f1 : Int) : Nat → zS
  | 0 => S
  | n + 1 => zs (rcd S q a b f1 n) 25 (64 * q + n) (AS (S 24 q) (EC S a b (f1 + n)))
def fRecord (S : zS) (q r1 r2 f1 : Int) : Int × zS :=
  if ¬ (0 ≤ q ∧ q ≤ 5) then fFind S (-12) else if ¬ ((0 ≤ r1 ∧ r1 < S 5 0) ∧ (0 ≤ r2 ∧ r2 < S 5 0)) then (-1, S) else if S 23 q.toNat < 0 then fFind S (-11)
  else (S 23 q.toNat, rcd S q.toNat r1.toNat r2.toNat f1 (S 23 q.toNat).toNat)
def ads (S : zS) (q r : Nat) (sh : Int) : Nat → zS
  | 0 => S
  | n + 1 => if 0 ≤ (n : Int) + sh ∧ (n : Int) + sh < S 23 r then zs (ads S q r sh n) 25 (64 * r + ((n : Int) + sh).toNat) (AS (S 24 r) (ads S q r sh n 25 (64 * r + ((n : Int) + sh).toNat) + S 25 (64 * q + n))) else ads S q r sh n
def adn (S : zS) (r : Nat) (sh : Int) : Nat → Int
  | 0 => 0
  | n + 1 => if 0 ≤ (n : Int) + sh ∧ (n : Int) + sh < S 23 r then adn S r sh n + 1 else adn S r sh n
def fAdd (S : zS) (q r sh : Int) : Int × zS :=
  if ¬ ((0 ≤ q ∧ q ≤ 5) ∧ (0 ≤ r ∧ r ≤ 5)) then fFind S (-12) else if S 23 q.toNat < 0 ∨ S 23 r.toNat < 0 then fFind S (-11)
  else (adn S r.toNat sh (S 23 q.toNat).toNat, ads S q.toNat r.toNat sh (S 23 q.toNat).toNat)
def cps (S : zS) (q i r j : Nat) : Nat → zS
  | 0 => S
  | n + 1 => zs (cps S q i r j n) 25 (64 * r + j + n) (S 25 (64 * q + i + n))
def fCopy (S : zS) (q i r j n : Int) : Int × zS :=
  if ¬ ((0 ≤ q ∧ q ≤ 5) ∧ (0 ≤ r ∧ r ≤ 5)) then fFind S (-12) else if S 23 q.toNat < 0 ∨ S 23 r.toNat < 0 then fFind S (-11)
  else if ¬ S 24 q.toNat = S 24 r.toNat then fFind S (-13) else if n < 0 then fFind S (-14)
  else if ¬ (0 ≤ i ∧ 0 ≤ j ∧ i + n ≤ S 23 q.toNat ∧ j + n ≤ S 23 r.toNat) then fFind S (-12)
  else (n, cps S q.toNat i.toNat r.toNat j.toNat n.toNat)
def fAt (S : zS) (q i : Int) : Int × zS :=
  if ¬ (0 ≤ q ∧ q ≤ 5) then fFind S (-12) else if S 23 q.toNat < 0 then fFind S (-11) else if ¬ (0 ≤ i ∧ i < S 23 q.toNat) then fFind S (-12) else (S 25 (64 * q.toNat + i.toNat), S)
def pkm (S : zS) (q : Nat) : Nat → Int
  | 0 => -1
  | n + 1 => if pkm S q n < zabs (S 25 (64 * q + n)) then zabs (S 25 (64 * q + n)) else pkm S q n
def pkb (S : zS) (q : Nat) : Nat → Int
  | 0 => -99999
  | n + 1 => if pkm S q n < zabs (S 25 (64 * q + n)) then (n : Int) else pkb S q n
def fPeak (S : zS) (q : Int) : Int × zS :=
  if ¬ (0 ≤ q ∧ q ≤ 5) then fFind S (-12) else if S 23 q.toNat < 0 then fFind S (-11) else (pkb S q.toNat (S 23 q.toNat).toNat, S)
def shn (S : zS) : Int := sumn (fun q => if S 23 q < 0 then 0 else 1) 6
def fTotal (S : zS) (w1 : Int) : Int × zS :=
  (if w1 = 0 then S 5 0 else if w1 = 1 then WK S else if w1 = 2 then S 8 0 else if w1 = 3 then S 19 0 else if w1 = 4 then S 27 0 else if w1 = 5 then shn S else if w1 = 6 then S 1 0 + S 2 0 else if w1 = 7 then S 17 0 else -2, S)
/-! the reference's tables over a state that has moved -/
theorem MC_zero {S U : zS} (h : ∀ k : Nat, k < 408 → U 16 k = 0) : MC S U := fun k hk => Or.inl (h k hk)
theorem TM_cong {S T : zS} {q x y : Nat} (h1 : T 1 0 = S 1 0) (h3 : T 3 0 = S 3 0) (h4 : T 4 0 = S 4 0) (h6 : T 6 q = S 6 q) : TM T q x y = TM S q x y ∧ BD T q x y = BD S q x y := by
  have e : tw T q x y = tw S q x y := by
    funext b
    unfold tw
    rw [h1, h3, h4, h6]
  unfold TM BD
  rw [e]
  exact ⟨rfl, rfl⟩
theorem MC_cong {S T U : zS} (h1 : T 1 0 = S 1 0) (h3 : T 3 0 = S 3 0) (h4 : T 4 0 = S 4 0) (h5 : S 5 0 ≤ T 5 0) (h6 : ∀ j : Nat, (j : Int) < S 5 0 → T 6 j = S 6 j) (hC : MC S U) : MC T U := by
  intro k hk
  rcases hC k hk with q | ⟨q1, q2, q3⟩
  · exact Or.inl q
  · refine Or.inr ⟨q1, by omega, fun x hx => ?_⟩
    obtain ⟨e1, e2⟩ := TM_cong (x := x) (y := k % 51) h1 h3 h4 (h6 (k / 51) q2)
    rw [e1, e2]
    exact q3 x hx
theorem dly_k {S : zS} {x y : Nat} {z : Int} {k : Nat} (hk : k ≠ 18) : ∀ n, dly S x y z n k = S k := by
  intro n
  induction n with
  | zero => rfl
  | succ n ih =>
    unfold dly
    rw [zs_ne hk]
    exact ih
theorem zro_k {S : zS} {q k : Nat} (hk : k ≠ 25) : ∀ n, zro S q n k = S k := by
  intro n
  induction n with
  | zero => rfl
  | succ n ih =>
    unfold zro
    rw [zs_ne hk]
    exact ih
theorem rcd_k {S : zS} {q a b k : Nat} {f1 : Int} (hk : k ≠ 25) : ∀ n, rcd S q a b f1 n k = S k := by
  intro n
  induction n with
  | zero => rfl
  | succ n ih =>
    unfold rcd
    rw [zs_ne hk]
    exact ih
theorem ads_k {S : zS} {q r k : Nat} {sh : Int} (hk : k ≠ 25) : ∀ n, ads S q r sh n k = S k := by
  intro n
  induction n with
  | zero => rfl
  | succ n ih =>
    unfold ads
    split
    · rw [zs_ne hk]
      exact ih
    · exact ih
theorem cps_k {S : zS} {q i r j k : Nat} (hk : k ≠ 25) : ∀ n, cps S q i r j n k = S k := by
  intro n
  induction n with
  | zero => rfl
  | succ n ih =>
    unfold cps
    rw [zs_ne hk]
    exact ih
theorem argb_S {f : Nat → Int} {n : Nat} : argb f (n + 1) = if f (n + 1) < minb f n then ((n + 1 : Nat) : Int) else argb f n := rfl
theorem gtf_S {S : zS} {a b n : Nat} {f1 t1 l1 : Int} : gtf S a b f1 t1 l1 (n + 1) = if (f1 ≤ ET S a b n ∧ ET S a b n ≤ t1) ∧ (l1 ≤ EC S a b (ET S a b n) ∨ EC S a b (ET S a b n) ≤ -l1) ∧ (gtf S a b f1 t1 l1 n = -99999 ∨ ET S a b n < gtf S a b f1 t1 l1 n) then ET S a b n else gtf S a b f1 t1 l1 n := rfl
theorem mst_S {S : zS} {x y n : Nat} : mst S x y (n + 1) = if S 7 n = 0 ∧ mst S x y n < TM S n x y then TM S n x y else mst S x y n := rfl
theorem pkm_S {S : zS} {q n : Nat} : pkm S q (n + 1) = if pkm S q n < zabs (S 25 (64 * q + n)) then zabs (S 25 (64 * q + n)) else pkm S q n := rfl
theorem pkb_S {S : zS} {q n : Nat} : pkb S q (n + 1) = if pkm S q n < zabs (S 25 (64 * q + n)) then (n : Int) else pkb S q n := rfl
theorem ads_S {S : zS} {q r n : Nat} {sh : Int} : ads S q r sh (n + 1) = if 0 ≤ (n : Int) + sh ∧ (n : Int) + sh < S 23 r then zs (ads S q r sh n) 25 (64 * r + ((n : Int) + sh).toNat) (AS (S 24 r) (ads S q r sh n 25 (64 * r + ((n : Int) + sh).toNat) + S 25 (64 * q + n))) else ads S q r sh n := rfl
theorem adn_S {S : zS} {r n : Nat} {sh : Int} : adn S r sh (n + 1) = if 0 ≤ (n : Int) + sh ∧ (n : Int) + sh < S 23 r then adn S r sh n + 1 else adn S r sh n := rfl
theorem adn_rng {S : zS} {r : Nat} {sh : Int} : ∀ n : Nat, 0 ≤ adn S r sh n ∧ adn S r sh n ≤ n := by
  intro n
  induction n with
  | zero => exact ⟨Int.le_refl _, Int.le_refl _⟩
  | succ n ih =>
    rw [adn_S]
    split <;> omega
theorem gtf_rng {S : zS} {a b : Nat} {f1 t1 l1 : Int} (hI : SI S) (ha : (a : Int) < S 5 0) (hb : (b : Int) < S 5 0) : ∀ n : Nat, (n : Int) ≤ S 8 0 → -99999 ≤ gtf S a b f1 t1 l1 n ∧ gtf S a b f1 t1 l1 n ≤ 4092 := by
  intro n
  induction n with
  | zero => exact fun _ => ⟨by simp [gtf], by simp [gtf]⟩
  | succ n ih =>
    intro h
    have h1 := ET_rng (t := n) hI ha hb (by omega)
    have h2 := ih (by omega)
    rw [gtf_S]
    split <;> omega
theorem mst_rng {S : zS} {x y : Nat} (hI : SI S) (hx : x ≤ 50) (hy : S 1 0 ≤ (y : Int) ∧ (y : Int) ≤ S 1 0 + S 2 0) : ∀ n : Nat, (n : Int) ≤ S 5 0 → 0 ≤ mst S x y n ∧ mst S x y n ≤ 2046 := by
  intro n
  induction n with
  | zero => exact fun _ => ⟨by simp [mst], by simp [mst]⟩
  | succ n ih =>
    intro h
    have h1 := TM_rng (e := n) hI.1 hI.2.1 (by omega) hx hy
    have h2 := ih (by omega)
    rw [mst_S]
    split <;> omega
theorem pkm_rng {S : zS} {q : Nat} (hI : SI S) : ∀ n : Nat, -1 ≤ pkm S q n ∧ pkm S q n ≤ 2147483648 := by
  intro n
  induction n with
  | zero => exact ⟨by simp [pkm], by simp [pkm]⟩
  | succ n ih =>
    have h1 := hI.2.2.2.2.1.2 (64 * q + n)
    unfold zr at h1
    rw [pkm_S]
    unfold zabs
    repeat' split
    all_goals omega
theorem WK_rng {S : zS} (hI : SI0 S) : 0 ≤ WK S ∧ WK S ≤ 8 := by
  unfold SI0 at hI
  obtain ⟨-, -, -, -, b5, -, -, -, b7⟩ := hI
  have h : ∀ n : Nat, 0 ≤ sumn (fun q => 1 - S 7 q) n ∧ sumn (fun q => 1 - S 7 q) n ≤ n := by
    intro n
    induction n with
    | zero => exact ⟨Int.le_refl _, Int.le_refl _⟩
    | succ n ih =>
      have := b7 n
      rw [sumn_S]
      omega
  have := h (S 5 0).toNat
  unfold WK
  omega
theorem SI0_lose {S : zS} {q : Nat} {z : Int} (hI : SI0 S) (hz : z = 0 ∨ z = 1) : SI0 (zs (zs S 7 q z) 17 0 0) := by
  unfold SI0 at hI
  obtain ⟨b1, b2, b3, b4, b5, b8, b17, b19, b7⟩ := hI
  refine ⟨b1, b2, b3, b4, b5, b8, (⟨Int.le_refl 0, by decide⟩ : (0 : Int) ≤ 0 ∧ (0 : Int) ≤ 1), b19, fun j => ?_⟩
  show 0 ≤ zg (S 7) q z j ∧ zg (S 7) q z j ≤ 1
  unfold zg
  split
  · omega
  · exact b7 j
theorem MC_own {S U : zS} {z : Int} (hC : MC S U) : MC S (zs U 0 0 z) := hC
section ZT
variable {p : Program} {l : Launch} {e : Env} {R : Room} {s : State} {m : MethodId} {args : Array Value} {below : List Frame} {meth : Method} {c : Code} {H : Heap} {locs : List Loc} {cells slots : Nat} {Q : State → Prop}
variable {cc : ByteArray} {pc : Nat} {ls : Array Slot} {rest : List Value} {own nm : String} {ws : List Cond} {ml : Nat} {ret : Option FieldType} {D : va_G} {cA : Nat → ClassId}
theorem z_tabI (E : zE p s m args meth c cc own nm ws ml ret D cA) {dflt lo hi : Int} {offs : Array Int} {len : Nat} {z : Int} (off : Int) (tgt : Nat) (d : decode cc pc = .ok (.tableswitch dflt lo hi offs, len)) (hr : zr z) (h1 : lo ≤ z) (h2 : z ≤ hi) (ho : offs[(z - lo).toNat]? = some off) (ht : (pc : Int) + off = (tgt : Int)) (k : W p l e R s m args below meth c H locs cells slots Q (F0 m tgt ls rest)) : W p l e R s m args below meth c H locs cells slots Q (F0 m pc ls (.int (i32 z) :: rest)) :=
  lv_tableIn E.1 E.2.1 d (by rw [i32_toInt hr.1 hr.2]; omega) (by rw [i32_toInt hr.1 hr.2]; omega) (by rw [i32_toInt hr.1 hr.2]; exact ho) ht k
theorem z_tabO (E : zE p s m args meth c cc own nm ws ml ret D cA) {dflt lo hi : Int} {offs : Array Int} {len : Nat} {z : Int} (tgt : Nat) (d : decode cc pc = .ok (.tableswitch dflt lo hi offs, len)) (hr : zr z) (h : z < lo ∨ hi < z) (ht : (pc : Int) + dflt = (tgt : Int)) (k : W p l e R s m args below meth c H locs cells slots Q (F0 m tgt ls rest)) : W p l e R s m args below meth c H locs cells slots Q (F0 m pc ls (.int (i32 z) :: rest)) :=
  lv_tableOut E.1 E.2.1 d (by rw [i32_toInt hr.1 hr.2]; exact h) ht k
end ZT
