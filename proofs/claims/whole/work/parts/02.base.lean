/-! whole numbers as the machine's ints and longs -/
def i32 (z : Int) : Int32 := Int32.ofInt z
def i64 (z : Int) : Int64 := Int64.ofInt z
theorem i32_toInt {z : Int} (h1 : -2147483648 ≤ z) (h2 : z < 2147483648) : (i32 z).toInt = z := by
  unfold i32
  rw [Int32.toInt_ofInt]
  have hs : ((Int32.size : Nat) : Int) = 4294967296 := rfl
  exact Int.bmod_eq_of_le (by omega) (by omega)
theorem i64_toInt {z : Int} (h1 : -9223372036854775808 ≤ z) (h2 : z < 9223372036854775808) : (i64 z).toInt = z := by
  unfold i64
  rw [Int64.toInt_ofInt]
  have hs : ((Int64.size : Nat) : Int) = 18446744073709551616 := rfl
  exact Int.bmod_eq_of_le (by omega) (by omega)
theorem i32_self (x : Int32) : i32 x.toInt = x := Int32.ofInt_toInt x
theorem i64_self (x : Int64) : i64 x.toInt = x := Int64.ofInt_toInt x
theorem i32_rng (x : Int32) : -2147483648 ≤ x.toInt ∧ x.toInt < 2147483648 := ⟨Int32.le_toInt x, Int32.toInt_lt x⟩
theorem i32_of (x : Int32) : ∃ z : Int, x = i32 z ∧ -2147483648 ≤ z ∧ z < 2147483648 := ⟨x.toInt, (i32_self x).symm, (i32_rng x).1, (i32_rng x).2⟩
theorem i32_add (a b : Int) : i32 a + i32 b = i32 (a + b) := (Int32.ofInt_add a b).symm
theorem i32_sub (a b : Int) : i32 a - i32 b = i32 (a - b) := (Int32.ofInt_sub a b).symm
theorem i32_mul (a b : Int) : i32 a * i32 b = i32 (a * b) := (Int32.ofInt_mul a b).symm
theorem i32_neg (a : Int) : -i32 a = i32 (-a) := (Int32.ofInt_neg a).symm
theorem i64_add (a b : Int) : i64 a + i64 b = i64 (a + b) := (Int64.ofInt_add a b).symm
theorem i64_sub (a b : Int) : i64 a - i64 b = i64 (a - b) := (Int64.ofInt_sub a b).symm
theorem i64_neg (a : Int) : -i64 a = i64 (-a) := (Int64.ofInt_neg a).symm
def zr (z : Int) : Prop := -2147483648 ≤ z ∧ z < 2147483648
def zrl (z : Int) : Prop := -9223372036854775808 ≤ z ∧ z < 9223372036854775808
theorem i32_lt {a b : Int} (ha : zr a) (hb : zr b) : i32 a < i32 b ↔ a < b := by
  rw [Int32.lt_iff_toInt_lt, i32_toInt ha.1 ha.2, i32_toInt hb.1 hb.2]
theorem i32_le {a b : Int} (ha : zr a) (hb : zr b) : i32 a ≤ i32 b ↔ a ≤ b := by
  rw [Int32.le_iff_toInt_le, i32_toInt ha.1 ha.2, i32_toInt hb.1 hb.2]
theorem i32_eq {a b : Int} (ha : zr a) (hb : zr b) : i32 a = i32 b ↔ a = b := by
  rw [← Int32.toInt_inj, i32_toInt ha.1 ha.2, i32_toInt hb.1 hb.2]
theorem i64_lt {a b : Int} (ha : zrl a) (hb : zrl b) : i64 a < i64 b ↔ a < b := by
  rw [Int64.lt_iff_toInt_lt, i64_toInt ha.1 ha.2, i64_toInt hb.1 hb.2]
theorem i64_le {a b : Int} (ha : zrl a) (hb : zrl b) : i64 a ≤ i64 b ↔ a ≤ b := by
  rw [Int64.le_iff_toInt_le, i64_toInt ha.1 ha.2, i64_toInt hb.1 hb.2]
theorem i64_eq {a b : Int} (ha : zrl a) (hb : zrl b) : i64 a = i64 b ↔ a = b := by
  rw [← Int64.toInt_inj, i64_toInt ha.1 ha.2, i64_toInt hb.1 hb.2]
theorem i32_0 : (0 : Int32) = i32 0 := by decide +kernel
theorem zr0 : zr 0 := ⟨by decide, by decide⟩
theorem i32_clamp {z : Int} (h1 : 0 ≤ z) (h2 : z < 2147483648) : (i32 z).toNatClampNeg = z.toNat := by
  show (i32 z).toInt.toNat = z.toNat
  rw [i32_toInt (by omega) h2]
theorem i32_in {z : Int} {n : Nat} (h1 : 0 ≤ z) (h2 : z < n) (hn : (n : Int) < 2147483648) : vp_in (i32 z) n := by
  rw [vp_in_iff, i32_toInt (by omega) (by omega)]
  exact ⟨h1, h2⟩
theorem i32_l {z : Int} (h : zr z) : (i32 z).toInt64 = i64 z := by
  rw [← Int64.toInt_inj, Int32.toInt_toInt64, i32_toInt h.1 h.2, i64_toInt (by have := h.1; omega) (by have := h.2; omega)]
theorem i64_i (z : Int) : (i64 z).toInt32 = i32 z := by
  unfold i64 i32
  rw [Int64.toInt32_ofInt]
theorem nI_i (n : Nat) : nI n = i32 (n : Int) := by
  show Int32.ofNat n = Int32.ofInt (n : Int)
  rw [Int32.ofInt_eq_ofNat]
/-! the world: logical places, each with an address and what lies there -/
abbrev zL : Type := Nat → Nat → Option (Nat × va_E)
def zu (L : zL) (k i : Nat) (q : Option (Nat × va_E)) : zL := fun k' i' => if k' = k ∧ i' = i then q else L k' i'
def zW (D : va_G) (B0 : Nat) (L : zL) (H : Heap) : Prop :=
  (∀ (k i : Nat) (q : Nat × va_E), L k i = some q → va_at D vwCl q H ∧ B0 ≤ q.1) ∧
  (∀ (k i k' i' : Nat) (q q' : Nat × va_E), L k i = some q → L k' i' = some q' → q.1 = q'.1 → k = k' ∧ i = i') ∧ B0 ≤ H.size
def zX (D : va_G) (B0 : Nat) (L : zL) (H0 H : Heap) (locs : List Loc) : Prop := zW D B0 L H ∧ va_S (fun q => B0 ≤ q) H0 H locs
theorem zu_self (L : zL) (k i : Nat) (q : Option (Nat × va_E)) : zu L k i q k i = q := if_pos ⟨rfl, rfl⟩
theorem zu_ne {L : zL} {k i k' i' : Nat} {q : Option (Nat × va_E)} (h : ¬ (k' = k ∧ i' = i)) : zu L k i q k' i' = L k' i' := if_neg h
theorem zu_at {L : zL} {k i k' i' : Nat} {q : Option (Nat × va_E)} {x : Nat × va_E} (h : zu L k i q k' i' = some x) : (k' = k ∧ i' = i ∧ q = some x) ∨ (¬ (k' = k ∧ i' = i) ∧ L k' i' = some x) := by
  by_cases hc : k' = k ∧ i' = i
  · rw [hc.1, hc.2, zu_self] at h
    exact Or.inl ⟨hc.1, hc.2, h⟩
  · rw [zu_ne hc] at h
    exact Or.inr ⟨hc, h⟩
theorem zW.put {D : va_G} {B0 : Nat} {L : zL} {H H1 : Heap} {k i a : Nat} {e0 e : va_E} (w : zW D B0 L H) (h : L k i = some (a, e0)) (he : va_at D vwCl (a, e) H1) (hz : H1.size = H.size) (oq : ∀ q : Nat, q ≠ a → H1[q]? = H[q]?) : zW D B0 (zu L k i (some (a, e))) H1 := by
  obtain ⟨w1, w2, w3⟩ := w
  refine ⟨fun k' i' q hq => ?_, fun k1 i1 k2 i2 q q' h1 h2 hx => ?_, by rw [hz]; exact w3⟩
  · rcases zu_at hq with ⟨-, -, hs⟩ | ⟨hn, hs⟩
    · cases hs
      exact ⟨he, (w1 k i _ h).2⟩
    · refine ⟨(w1 k' i' q hs).1.kept (oq q.1 (fun z => hn ?_)), (w1 k' i' q hs).2⟩
      exact w2 k' i' k i q (a, e0) hs h z
  · rcases zu_at h1 with ⟨a1, b1, c1⟩ | ⟨n1, c1⟩ <;> rcases zu_at h2 with ⟨a2, b2, c2⟩ | ⟨n2, c2⟩
    · exact ⟨a1.trans a2.symm, b1.trans b2.symm⟩
    · cases c1
      exact absurd (w2 k2 i2 k i q' (a, e0) c2 h hx.symm) n2
    · cases c2
      exact absurd (w2 k1 i1 k i q (a, e0) c1 h hx) n1
    · exact w2 k1 i1 k2 i2 q q' c1 c2 hx
theorem zW.push {D : va_G} {B0 : Nat} {L : zL} {H H1 : Heap} {a : Nat} {e : va_E} (k i : Nat) (w : zW D B0 L H) (ha : a = H.size) (he : va_at D vwCl (a, e) H1) (hz : H1.size = H.size + 1) (oq : ∀ q : Nat, q < H.size → H1[q]? = H[q]?) : zW D B0 (zu L k i (some (a, e))) H1 := by
  obtain ⟨w1, w2, w3⟩ := w
  have lt : ∀ (k i : Nat) (q : Nat × va_E), L k i = some q → q.1 < H.size := fun k i q h => (w1 k i q h).1.lt
  refine ⟨fun k' i' q hq => ?_, fun k1 i1 k2 i2 q q' h1 h2 hx => ?_, by omega⟩
  · rcases zu_at hq with ⟨-, -, hs⟩ | ⟨hn, hs⟩
    · cases hs
      exact ⟨he, by show B0 ≤ a; omega⟩
    · exact ⟨(w1 k' i' q hs).1.kept (oq q.1 (lt k' i' q hs)), (w1 k' i' q hs).2⟩
  · rcases zu_at h1 with ⟨a1, b1, c1⟩ | ⟨n1, c1⟩ <;> rcases zu_at h2 with ⟨a2, b2, c2⟩ | ⟨n2, c2⟩
    · exact ⟨a1.trans a2.symm, b1.trans b2.symm⟩
    · cases c1
      have := lt k2 i2 q' c2
      have hx : a = q'.1 := hx
      omega
    · cases c2
      have := lt k1 i1 q c1
      have hx : q.1 = a := hx
      omega
    · exact w2 k1 i1 k2 i2 q q' c1 c2 hx
theorem zW.less {D : va_G} {B0 : Nat} {L L' : zL} {H : Heap} (w : zW D B0 L H) (h : ∀ (k i : Nat) (q : Nat × va_E), L' k i = some q → L k i = some q) : zW D B0 L' H :=
  ⟨fun k i q hq => w.1 k i q (h k i q hq), fun k i k' i' q q' h1 h2 hx => w.2.1 k i k' i' q q' (h k i q h1) (h k' i' q' h2) hx, w.2.2⟩
theorem zX.less {D : va_G} {B0 : Nat} {L L' : zL} {H0 H : Heap} {locs : List Loc} (w : zX D B0 L H0 H locs) (h : ∀ (k i : Nat) (q : Nat × va_E), L' k i = some q → L k i = some q) : zX D B0 L' H0 H locs := ⟨w.1.less h, w.2⟩
theorem zX.to {D : va_G} {B0 : Nat} {L L' : zL} {H0 H : Heap} {locs : List Loc} (w : zX D B0 L H0 H locs) (h : ∀ (k i : Nat), L' k i = L k i) : zX D B0 L' H0 H locs := w.less (fun k i q hq => by rw [← h]; exact hq)
theorem zW.P {D : va_G} {B0 : Nat} {L : zL} {H : Heap} (w : zW D B0 L H) {k i : Nat} {q : Nat × va_E} (h : L k i = some q) : va_P D vwCl [q] H := by
  intro j x hj
  cases j with
  | zero => cases hj; exact (w.1 k i _ h).1
  | succ j => simp at hj
/-- int arrays: what lies below the length counts alone -/
theorem z_arr {cA : ClassId} {n : Nat} {f g : Nat → Int32} (h : ∀ j, j < n → f j = g j) : vp_cell cA (n, .inl f) = vp_cell cA (n, .inl g) := by
  rw [vp_cell_i, vp_cell_i]
  unfold arrV
  congr 2
  funext j
  show Value.int (f j.val) = Value.int (g j.val)
  rw [h j.val j.isLt]
theorem z_arrq {cA : ClassId} {n : Nat} {f g : Nat → Option Nat} (h : ∀ j, j < n → f j = g j) : vp_cell cA (n, .inr (.inr (.inr (.inr f)))) = vp_cell cA (n, .inr (.inr (.inr (.inr g)))) := by
  rw [vp_cell_q, vp_cell_q]
  unfold arrV
  congr 2
  funext j
  show va_rf (f j.val) = va_rf (g j.val)
  rw [h j.val j.isLt]
