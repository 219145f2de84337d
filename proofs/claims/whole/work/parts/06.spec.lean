/-- what the numbers of a state keep to -/
def SI0 (S : zS) : Prop := (0 ≤ S 1 0 ∧ S 1 0 ≤ 20) ∧ (1 ≤ S 2 0 ∧ S 2 0 ≤ 30) ∧ (1 ≤ S 3 0 ∧ S 3 0 ≤ 8) ∧ (1 ≤ S 4 0 ∧ S 4 0 ≤ 8) ∧ (0 ≤ S 5 0 ∧ S 5 0 ≤ 8) ∧ (0 ≤ S 8 0 ∧ S 8 0 ≤ 8) ∧ (0 ≤ S 17 0 ∧ S 17 0 ≤ 1) ∧ (0 ≤ S 19 0 ∧ S 19 0 ≤ 6) ∧ ∀ j : Nat, 0 ≤ S 7 j ∧ S 7 j ≤ 1
/-! sums, least ones, as the reference finds them -/
def sumn (f : Nat → Int) : Nat → Int
  | 0 => 0
  | n + 1 => sumn f n + f n
def minb (f : Nat → Int) : Nat → Int
  | 0 => f 0
  | n + 1 => if f (n + 1) < minb f n then f (n + 1) else minb f n
def argb (f : Nat → Int) : Nat → Int
  | 0 => 0
  | n + 1 => if f (n + 1) < minb f n then ((n + 1 : Nat) : Int) else argb f n
def isqf : Nat → Int → Int
  | 0, _ => 0
  | f + 1, n => if (isqf f n + 1) * (isqf f n + 1) ≤ n then isqf f n + 1 else isqf f n
def isq (n : Int) : Int := isqf 1023 n
theorem isqf_spec (n : Int) (h : 0 ≤ n) : ∀ f : Nat, 0 ≤ isqf f n ∧ isqf f n ≤ f ∧ isqf f n * isqf f n ≤ n ∧ (isqf f n = f ∨ n < (isqf f n + 1) * (isqf f n + 1)) := by
  intro f
  induction f with
  | zero => exact ⟨Int.le_refl 0, by simp [isqf], by simpa [isqf] using h, Or.inl rfl⟩
  | succ f ih =>
    obtain ⟨h1, h2, h3, h4⟩ := ih
    unfold isqf
    by_cases hc : (isqf f n + 1) * (isqf f n + 1) ≤ n
    · rw [if_pos hc]
      rcases h4 with h4 | h4
      · exact ⟨by omega, by omega, hc, Or.inl (by rw [h4]; rfl)⟩
      · omega
    · rw [if_neg hc]
      exact ⟨h1, by omega, h3, Or.inr (by omega)⟩
theorem isq_spec {n : Int} (h : 0 ≤ n) (h2 : n < 1048576) : 0 ≤ isq n ∧ isq n * isq n ≤ n ∧ n < (isq n + 1) * (isq n + 1) ∧ isq n ≤ 1023 := by
  obtain ⟨h1, h3, h4, h5⟩ := isqf_spec n h 1023
  refine ⟨h1, h4, ?_, h3⟩
  rcases h5 with h5 | h5
  · unfold isq
    rw [h5]
    exact Int.lt_of_lt_of_le h2 (by decide)
  · exact h5
theorem sq_lt {a b : Int} (ha : 0 ≤ a) (h : a * a < b * b) (hb : 0 ≤ b) : a < b := by
  rcases Int.lt_or_le a b with q | q
  · exact q
  · exact absurd (Int.mul_le_mul q q hb ha) (by omega)
theorem isq_eq {n r : Int} (h2 : n < 1048576) (h0 : 0 ≤ r) (h3 : r * r ≤ n) (h4 : n < (r + 1) * (r + 1)) : r = isq n := by
  have hn : 0 ≤ n := Int.le_trans (Int.mul_nonneg h0 h0) h3
  obtain ⟨a1, a2, a3, -⟩ := isq_spec hn h2
  have b1 := sq_lt h0 (Int.lt_of_le_of_lt h3 a3) (by omega)
  have b2 := sq_lt a1 (Int.lt_of_le_of_lt a2 h4) (by omega)
  omega
theorem isq_mono {m n : Int} (h0 : 0 ≤ m) (h : m ≤ n) (h2 : n < 1048576) : isq m ≤ isq n := by
  obtain ⟨a1, a2, a3, -⟩ := isq_spec h0 (by omega)
  obtain ⟨b1, b2, b3, -⟩ := isq_spec (Int.le_trans h0 h) h2
  have := sq_lt a1 (Int.lt_of_le_of_lt (Int.le_trans a2 h) b3) (by omega)
  omega
def tk (k dx dy : Int) : Int := isq (k * k * (dx * dx + dy * dy))
theorem sq_le {a m : Int} (h1 : -m ≤ a) (h2 : a ≤ m) : 0 ≤ a * a ∧ a * a ≤ m * m := by
  refine ⟨?_, ?_⟩
  · rcases Int.le_total 0 a with q | q
    · exact Int.mul_nonneg q q
    · rw [← Int.neg_mul_neg]
      exact Int.mul_nonneg (by omega) (by omega)
  · rcases Int.le_total 0 a with q | q
    · exact Int.mul_le_mul h2 h2 q (by omega)
    · rw [← Int.neg_mul_neg]
      exact Int.mul_le_mul (by omega) (by omega) (by omega) (by omega)
theorem tk_arg {k dx dy : Int} (hk : 0 ≤ k ∧ k ≤ 8) (hx : -50 ≤ dx ∧ dx ≤ 50) (hy : -50 ≤ dy ∧ dy ≤ 50) : 0 ≤ k * k * (dx * dx + dy * dy) ∧ k * k * (dx * dx + dy * dy) ≤ 320000 ∧ 0 ≤ k * k ∧ k * k ≤ 64 ∧ 0 ≤ dx * dx ∧ dx * dx ≤ 2500 ∧ 0 ≤ dy * dy ∧ dy * dy ≤ 2500 := by
  have h1 := sq_le (a := k) (m := 8) (by omega) hk.2
  have h2 := sq_le (a := dx) (m := 50) (by omega) hx.2
  have h3 := sq_le (a := dy) (m := 50) (by omega) hy.2
  refine ⟨Int.mul_nonneg h1.1 (by omega), ?_, h1.1, by omega, h2.1, by omega, h3.1, by omega⟩
  exact Int.le_trans (Int.mul_le_mul (show k * k ≤ 64 by omega) (show dx * dx + dy * dy ≤ 5000 by omega) (by omega) (by omega)) (by decide)
theorem tk_rng {k dx dy : Int} (hk : 0 ≤ k ∧ k ≤ 8) (hx : -50 ≤ dx ∧ dx ≤ 50) (hy : -50 ≤ dy ∧ dy ≤ 50) : 0 ≤ tk k dx dy ∧ tk k dx dy ≤ 1023 := by
  obtain ⟨h1, h2, -⟩ := tk_arg hk hx hy
  obtain ⟨a1, -, -, a4⟩ := isq_spec h1 (by omega)
  exact ⟨a1, a4⟩
theorem minb_le {f : Nat → Int} : ∀ {n k : Nat}, k ≤ n → minb f n ≤ f k := by
  intro n
  induction n with
  | zero =>
    intro k hk
    have : k = 0 := by omega
    subst this
    exact Int.le_refl _
  | succ n ih =>
    intro k hk
    unfold minb
    split
    · rename_i h
      rcases Nat.lt_or_ge k (n + 1) with q | q
      · have := ih (k := k) (by omega)
        omega
      · have : k = n + 1 := by omega
        subst this
        exact Int.le_refl _
    · rename_i h
      rcases Nat.lt_or_ge k (n + 1) with q | q
      · exact ih (by omega)
      · have : k = n + 1 := by omega
        subst this
        omega
theorem minb_is {f : Nat → Int} : ∀ (n : Nat), ∃ k, k ≤ n ∧ f k = minb f n ∧ argb f n = (k : Int) ∧ ∀ j, j < k → minb f n < f j := by
  intro n
  induction n with
  | zero => exact ⟨0, Nat.le_refl 0, rfl, rfl, fun j h => absurd h (Nat.not_lt_zero j)⟩
  | succ n ih =>
    obtain ⟨k, h1, h2, h3, h4⟩ := ih
    unfold minb argb
    by_cases hc : f (n + 1) < minb f n
    · rw [if_pos hc, if_pos hc]
      exact ⟨n + 1, Nat.le_refl _, rfl, rfl, fun j hj => Int.lt_of_lt_of_le hc (minb_le (by omega))⟩
    · rw [if_neg hc, if_neg hc]
      exact ⟨k, by omega, h2, h3, h4⟩
theorem minb_ge {f : Nat → Int} {n : Nat} {z : Int} (h : ∀ k, k ≤ n → z ≤ f k) : z ≤ minb f n := by
  obtain ⟨k, h1, h2, -⟩ := minb_is (f := f) n
  rw [← h2]
  exact h k h1
theorem minb_cong {f g : Nat → Int} : ∀ {n : Nat}, (∀ k, k ≤ n → f k = g k) → minb f n = minb g n := by
  intro n
  induction n with
  | zero => exact fun h => h 0 (Nat.le_refl 0)
  | succ n ih =>
    intro h
    unfold minb
    rw [ih (fun k hk => h k (by omega)), h (n + 1) (Nat.le_refl _)]
theorem sumn_cong {f g : Nat → Int} : ∀ {n : Nat}, (∀ k, k < n → f k = g k) → sumn f n = sumn g n := by
  intro n
  induction n with
  | zero => exact fun _ => rfl
  | succ n ih =>
    intro h
    unfold sumn
    rw [ih (fun k hk => h k (by omega)), h n (by omega)]
theorem sumn_rng {f : Nat → Int} {m : Int} (hm : 0 ≤ m) : ∀ {n : Nat}, (∀ k, k < n → -m ≤ f k ∧ f k ≤ m) → -(n * m) ≤ sumn f n ∧ sumn f n ≤ n * m := by
  intro n
  induction n with
  | zero => exact fun _ => by simp [sumn]
  | succ n ih =>
    intro h
    have h1 := ih (fun k hk => h k (by omega))
    have h2 := h n (by omega)
    have e : ((n + 1 : Nat) : Int) * m = n * m + m := by
      rw [Int.natCast_add, Int.add_mul]
      simp
    unfold sumn
    omega
/-! times -/
/-- ticks by the bend b -/
def tw (S : zS) (e x y : Nat) (b : Nat) : Int := tk (S 3 0) ((b : Int) - S 6 e) (S 1 0) + tk (S 4 0) ((x : Int) - b) ((y : Int) - S 1 0)
def TM (S : zS) (e x y : Nat) : Int := minb (tw S e x y) 50
def BD (S : zS) (e x y : Nat) : Int := argb (tw S e x y) 50
/-- an element's place lies on the row -/
def SI1 (S : zS) : Prop := ∀ j : Nat, (j : Int) < S 5 0 → 0 ≤ S 6 j ∧ S 6 j ≤ 50
theorem tw_rng {S : zS} {e x y b : Nat} (h0 : SI0 S) (h1 : SI1 S) (he : (e : Int) < S 5 0) (hx : x ≤ 50) (hy : S 1 0 ≤ y ∧ (y : Int) ≤ S 1 0 + S 2 0) (hb : b ≤ 50) : 0 ≤ tw S e x y b ∧ tw S e x y b ≤ 2046 := by
  unfold SI0 at h0
  obtain ⟨b1, b2, b3, b4, -⟩ := h0
  have h6 := h1 e he
  have t1 := tk_rng (k := S 3 0) (dx := (b : Int) - S 6 e) (dy := S 1 0) (by omega) (by omega) (by omega)
  have t2 := tk_rng (k := S 4 0) (dx := (x : Int) - b) (dy := (y : Int) - S 1 0) (by omega) (by omega) (by omega)
  unfold tw
  omega
theorem TM_rng {S : zS} {e x y : Nat} (h0 : SI0 S) (h1 : SI1 S) (he : (e : Int) < S 5 0) (hx : x ≤ 50) (hy : S 1 0 ≤ y ∧ (y : Int) ≤ S 1 0 + S 2 0) : 0 ≤ TM S e x y ∧ TM S e x y ≤ 2046 := by
  refine ⟨minb_ge (fun k hk => (tw_rng h0 h1 he hx hy hk).1), ?_⟩
  exact Int.le_trans (minb_le (k := 0) (Nat.zero_le _)) (tw_rng h0 h1 he hx hy (Nat.zero_le _)).2
theorem zs_ne {S : zS} {k j k' : Nat} {z : Int} (h : k' ≠ k) : zs S k j z k' = S k' := by
  unfold zs
  rw [show Nat.beq k' k = false by
    cases hb : Nat.beq k' k with
    | false => rfl
    | true => exact absurd (Nat.eq_of_beq_eq_true hb) h]
  rfl
theorem zs_eq {S : zS} {k j : Nat} {z : Int} : zs S k j z k = zg (S k) j z := by
  unfold zs
  rw [show Nat.beq k k = true from Nat.beq_refl k]
  rfl
theorem zg_eq {g : Nat → Int} {k : Nat} {z : Int} : zg g k z k = z := if_pos rfl
theorem zg_ne {g : Nat → Int} {k j : Nat} {z : Int} (h : j ≠ k) : zg g k z j = g j := if_neg h
/-- what the reference's tables of times hold -/
def MC (S U : zS) : Prop := ∀ k : Nat, k < 408 → U 16 k = 0 ∨ (U 16 k = 1 ∧ ((k / 51 : Nat) : Int) < S 5 0 ∧ ∀ x : Nat, x < 51 → U 14 (51 * k + x) = TM S (k / 51) x (k % 51) ∧ U 15 (51 * k + x) = BD S (k / 51) x (k % 51))
/-! the filling of a row of them -/
def mkI (S U : zS) (ea y n b : Nat) (T : zS) : Prop := (∀ q : Nat, q ≠ 14 → q ≠ 15 → T q = zs U 16 (51 * ea + y) 1 q) ∧ (∀ q : Nat, q < 51 * (51 * ea + y) ∨ 51 * (51 * ea + y) + 51 ≤ q → T 14 q = U 14 q ∧ T 15 q = U 15 q) ∧ (∀ x : Nat, x < n → T 14 (51 * (51 * ea + y) + x) = TM S ea x y ∧ T 15 (51 * (51 * ea + y) + x) = BD S ea x y) ∧ (0 < b → T 14 (51 * (51 * ea + y) + n) = minb (tw S ea n y) (b - 1) ∧ T 15 (51 * (51 * ea + y) + n) = argb (tw S ea n y) (b - 1))
theorem mkI_start (S U : zS) (ea y : Nat) : mkI S U ea y 0 0 (zs U 16 (51 * ea + y) 1) := ⟨fun _ _ _ => rfl, fun q _ => ⟨by rw [zs_ne (by decide)], by rw [zs_ne (by decide)]⟩, fun x h => absurd h (Nat.not_lt_zero x), fun h => absurd h (Nat.lt_irrefl 0)⟩
theorem mkI_next {S U T : zS} {ea y n : Nat} (h : mkI S U ea y n 51 T) : mkI S U ea y (n + 1) 0 T := by
  obtain ⟨h1, h2, h3, h4⟩ := h
  refine ⟨h1, h2, fun x hx => ?_, fun h => absurd h (Nat.lt_irrefl 0)⟩
  rcases Nat.lt_or_ge x n with q | q
  · exact h3 x q
  · have e : x = n := by omega
    subst e
    exact h4 (by decide)
theorem mkI_keep {S U T : zS} {ea y n b : Nat} (h : mkI S U ea y n b T) (hb : 0 < b) (hc : ¬ tw S ea n y b < T 14 (51 * (51 * ea + y) + n)) : mkI S U ea y n (b + 1) T := by
  obtain ⟨h1, h2, h3, h4⟩ := h
  refine ⟨h1, h2, h3, fun _ => ?_⟩
  obtain ⟨e1, e2⟩ := h4 hb
  rw [e1] at hc
  obtain ⟨k, rfl⟩ : ∃ k, b = k + 1 := ⟨b - 1, by omega⟩
  simp only [Nat.add_sub_cancel] at e1 e2 hc ⊢
  unfold minb argb
  rw [if_neg hc, if_neg hc]
  exact ⟨e1, e2⟩
theorem mkI_write {S U T : zS} {ea y n b : Nat} (h : mkI S U ea y n b T) (hn : n < 51) (hc : b = 0 ∨ tw S ea n y b < T 14 (51 * (51 * ea + y) + n)) : mkI S U ea y n (b + 1) (zs (zs T 14 (51 * (51 * ea + y) + n) (tw S ea n y b)) 15 (51 * (51 * ea + y) + n) (b : Int)) := by
  obtain ⟨h1, h2, h3, h4⟩ := h
  have f14 : ∀ q, q ≠ 51 * (51 * ea + y) + n → zs (zs T 14 (51 * (51 * ea + y) + n) (tw S ea n y b)) 15 (51 * (51 * ea + y) + n) (b : Int) 14 q = T 14 q := fun q hq => by
    rw [zs_ne (by decide), zs_eq, zg_ne hq]
  have f15 : ∀ q, q ≠ 51 * (51 * ea + y) + n → zs (zs T 14 (51 * (51 * ea + y) + n) (tw S ea n y b)) 15 (51 * (51 * ea + y) + n) (b : Int) 15 q = T 15 q := fun q hq => by
    rw [zs_eq, zg_ne hq, zs_ne (by decide)]
  refine ⟨fun q a1 a2 => ?_, fun q hq => ?_, fun x hx => ?_, fun _ => ?_⟩
  · rw [zs_ne a2, zs_ne a1]
    exact h1 q a1 a2
  · rw [f14 q (by omega), f15 q (by omega)]
    exact h2 q hq
  · rw [f14 _ (by omega), f15 _ (by omega)]
    exact h3 x hx
  · rw [zs_ne (by decide), zs_eq, zg_eq, zs_eq, zg_eq]
    simp only [Nat.add_sub_cancel]
    cases b with
    | zero => exact ⟨rfl, rfl⟩
    | succ k =>
      obtain ⟨e1, e2⟩ := h4 (by omega)
      have hc : tw S ea n y (k + 1) < minb (tw S ea n y) k := by
        rcases hc with hc | hc
        · omega
        · rw [e1] at hc
          exact hc
      unfold minb argb
      rw [if_pos hc, if_pos hc]
      exact ⟨rfl, rfl⟩
theorem mkI_done {S U T : zS} {ea y : Nat} (h : mkI S U ea y 51 0 T) (hC : MC S U) (he : (ea : Int) < S 5 0) (hy : y < 51) : MC S T ∧ T 16 (51 * ea + y) = 1 := by
  obtain ⟨h1, h2, h3, -⟩ := h
  have e16 : T 16 = zg (U 16) (51 * ea + y) 1 := by rw [h1 16 (by decide) (by decide), zs_eq]
  refine ⟨fun k hk => ?_, by rw [e16, zg_eq]⟩
  by_cases hr : k = 51 * ea + y
  · right
    have d1 : k / 51 = ea := by omega
    have d2 : k % 51 = y := by omega
    rw [d1, d2]
    subst hr
    exact ⟨by rw [e16, zg_eq], he, h3⟩
  · rw [e16, zg_ne hr]
    rcases hC k hk with q | ⟨q1, q2, q3⟩
    · exact Or.inl q
    · refine Or.inr ⟨q1, q2, fun x hx => ?_⟩
      obtain ⟨a1, a2⟩ := h2 (51 * k + x) (by omega)
      rw [a1, a2]
      exact q3 x hx
