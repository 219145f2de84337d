def fil (g : Nat → Int) (x : Int) (m : Nat) : Nat → Int := fun j => if j < m then x else g j
theorem fil_S {g : Nat → Int} {x : Int} {m : Nat} : zg (fil g x m) m x = fil g x (m + 1) := by
  funext j
  unfold zg fil
  by_cases h : j = m
  · rw [if_pos h, if_pos (by omega)]
  · rw [if_neg h]
    by_cases h2 : j < m
    · rw [if_pos h2, if_pos (by omega)]
    · rw [if_neg h2, if_neg (by omega)]
abbrev rJ7_fill_53178 : Room := { frames := 0, cells := 0, slots := 0, locals := 0 }
set_option maxHeartbeats 4000000 in
set_option maxRecDepth 100000 in
theorem J_fill (l : Launch) (D : va_G) (cA : Nat → ClassId) (B0 : Nat) (L : zL) (k i a n : Nat) (g : Nat → Int) (x : Int) (hL : L k i = some (kI cA a n g)) (hn : n < 100000) : zM l yJ7_fill_53178 wsJ7_fill_53178 rJ7_fill_53178 [.ref a, .int (i32 x)] D cA B0 (zW D B0 L) (fun v H => v = none ∧ zW D B0 (zu L k i (some (kI cA a n (fun _ => x)))) H) := by
  refine z_met (cc := cJ7_fill_53178) (maxL := 4) (ret := none) (by decide) rfl (Nat.le_of_ble_eq_true rfl) ?_
  intro p e s m args below meth c ls Q hQ E hP hB hS hl
  have hl : lv_has ls 4 [(0, .ref a), (1, .int (i32 x))] := hl
  have X : zX D B0 (zu L k i (some (kI cA a n g))) s.heap s.heap [] := by rw [zu_id hL]; exact ⟨hP, hS⟩
  refine z_iconst E dJ7_fill_53178_0 ?_
  refine z_top (0 : Int) (rfl) ?_
  refine lv_istore_n (lv' := [(2, .int (i32 (0 : Int))), (0, .ref a), (1, .int (i32 x))]) E.1 E.2.1 dJ7_fill_53178_1 rfl hl (by decide) rfl (fun ls hl => ?_)
  refine lv_aload_n E.1 E.2.1 dJ7_fill_53178_2 rfl (lv_at hl 1 rfl) ?_
  refine z_alen (z := (n : Int)) E X 0 (zu_self L k i _) rfl (by omega) dJ7_fill_53178_3 ?_
  refine lv_istore_n (lv' := [(3, .int (i32 (n : Int))), (2, .int (i32 (0 : Int))), (0, .ref a), (1, .int (i32 x))]) E.1 E.2.1 dJ7_fill_53178_4 rfl hl (by decide) rfl (fun ls hl => ?_)
  have X : zX D B0 (zu L k i (some (kI cA a n (fil g x 0)))) s.heap s.heap [] := by rw [show fil g x 0 = g from funext (fun j => if_neg (Nat.not_lt_zero j))]; exact X
  have key5 : ∀ (N : Nat) (j : Nat) (H : Heap) (locs : List Loc) (ls : Array Slot), (n - j) < N → (j ≤ n) → zX D B0 (zu L k i (some (kI cA a n (fil g x j)))) s.heap H locs → lv_has ls 4 [(0, .ref a), (1, .int (i32 x)), (2, .int (i32 (j : Int))), (3, .int (i32 (n : Int)))] → W p l e rJ7_fill_53178 s m args below meth c H locs 0 0 Q (F0 m 5 ls []) := by
    intro N
    induction N with
    | zero => intros; omega
    | succ N ih5 =>
      intro j H locs ls hN hj X hl
      refine lv_iload_n E.1 E.2.1 dJ7_fill_53178_5 rfl (lv_at hl 2 rfl) ?_
      refine lv_iload_n E.1 E.2.1 dJ7_fill_53178_6 rfl (lv_at hl 3 rfl) ?_
      refine z_cge E 20 ⟨by omega, by omega⟩ ⟨by omega, by omega⟩ dJ7_fill_53178_7 (by decide) (fun h7_1 => ?_) (fun h7_1 => ?_)
      · have X := X.arr (g := fun _ => x) (fun q hq => if_pos (by omega))
        exact z_retv E X hQ (⟨rfl, X.1⟩) dJ7_fill_53178_20
      · refine lv_aload_n E.1 E.2.1 dJ7_fill_53178_10 rfl (lv_at hl 0 rfl) ?_
        refine lv_iload_n E.1 E.2.1 dJ7_fill_53178_11 rfl (lv_at hl 2 rfl) ?_
        refine lv_iload_n E.1 E.2.1 dJ7_fill_53178_12 rfl (lv_at hl 1 rfl) ?_
        refine z_iast E X (zu_self L k i (some (kI cA a n (fil g x j)))) j (by omega) (by omega) (by omega) dJ7_fill_53178_13 (fun H locs X => ?_)
        rw [zu_zu] at X
        have X : zX D B0 (zu L k i (some (kI cA a n (fil g x (j + 1))))) s.heap H locs := by rw [← fil_S]; exact X
        refine z_iinc (lv' := [(2, .int (i32 ((j + 1 : Nat) : Int))), (0, .ref a), (1, .int (i32 x)), (3, .int (i32 (n : Int)))]) E dJ7_fill_53178_14 hl (k := 2) rfl (by decide) rfl (fun ls hl => ?_)
        refine lv_goto (tgt := 5) E.1 E.2.1 dJ7_fill_53178_17 (by decide) ?_
        exact ih5 (j + 1) _ _ _ (by omega) (by omega) X (lv_sub hl [1, 2, 0, 3] rfl)
  exact key5 ((n - 0) + 1) 0 _ _ _ (by omega) (by omega) X (lv_sub hl [2, 3, 1, 0] rfl)

section ZML
variable {p : Program} {l : Launch} {e : Env} {R : Room} {s : State} {m : MethodId} {args : Array Value} {below : List Frame} {meth : Method} {c : Code} {H : Heap} {locs : List Loc} {cells slots : Nat} {Q : State → Prop}
variable {cc : ByteArray} {pc : Nat} {ls : Array Slot} {rest : List Value} {own nm : String} {ws : List Cond} {ml : Nat} {ret : Option FieldType} {D : va_G} {cA : Nat → ClassId}
theorem z_lmax (E : zE p s m args meth c cc own nm ws ml ret D cA) {index : Nat} {a b : Int} (ha : zrl a) (hb : zrl b) (hl : Cond.methodLink own index Lib.MathLoose.max_long.x ∈ ws) (h2 : Cond.static Lib.MathLoose.max_long.x ∈ ws) (h3 : Cond.initialized "java/lang/Math" ∈ ws) (h4 : Cond.code Lib.MathLoose.max_long.x Lib.MathLoose.max_long.code 4 (some .long) ∈ ws) (hsz : ls.size = ml) (hfr : 1 ≤ R.frames) (hlo : (rest.map fun v => v.category).sum + 15 ≤ R.locals) (hcl : cells ≤ R.cells ∧ slots ≤ R.slots) (d : decode cc pc = .ok (.invokestatic index, 3))
    (kk : W p l e R s m args below meth c H locs cells slots Q (F0 m (pc + 3) ls (.long (i64 (zmax a b)) :: rest))) : W p l e R s m args below meth c H locs cells slots Q (F0 m pc ls (.long (i64 b) :: .long (i64 a) :: rest)) := by
  refine va_mmax_long E.1 E.2.1 (E.2.2.1.trans hsz.symm) E.2.2.2.1 (E.2.2.2.2.1 _ hl) (E.2.2.2.2.1 _ h2) (E.2.2.2.2.1 _ h3) (E.2.2.2.2.1 _ h4) hfr hlo hcl.1 hcl.2 d ?_
  have e1 : (if i64 b < i64 a then i64 a else i64 b) = i64 (zmax a b) := by
    unfold zmax
    by_cases h : b < a
    · rw [if_pos ((i64_lt hb ha).mpr h), if_neg (by omega)]
    · rw [if_neg (fun q => h ((i64_lt hb ha).mp q))]
      by_cases h2 : a < b
      · rw [if_pos h2]
      · rw [if_neg h2, show a = b by omega]
  rw [e1]
  exact kk
theorem z_lmin (E : zE p s m args meth c cc own nm ws ml ret D cA) {index : Nat} {a b : Int} (ha : zrl a) (hb : zrl b) (hl : Cond.methodLink own index Lib.MathLoose.min_long.x ∈ ws) (h2 : Cond.static Lib.MathLoose.min_long.x ∈ ws) (h3 : Cond.initialized "java/lang/Math" ∈ ws) (h4 : Cond.code Lib.MathLoose.min_long.x Lib.MathLoose.min_long.code 4 (some .long) ∈ ws) (hsz : ls.size = ml) (hfr : 1 ≤ R.frames) (hlo : (rest.map fun v => v.category).sum + 15 ≤ R.locals) (hcl : cells ≤ R.cells ∧ slots ≤ R.slots) (d : decode cc pc = .ok (.invokestatic index, 3))
    (kk : W p l e R s m args below meth c H locs cells slots Q (F0 m (pc + 3) ls (.long (i64 (zmin a b)) :: rest))) : W p l e R s m args below meth c H locs cells slots Q (F0 m pc ls (.long (i64 b) :: .long (i64 a) :: rest)) := by
  refine va_mmin_long E.1 E.2.1 (E.2.2.1.trans hsz.symm) E.2.2.2.1 (E.2.2.2.2.1 _ hl) (E.2.2.2.2.1 _ h2) (E.2.2.2.2.1 _ h3) (E.2.2.2.2.1 _ h4) hfr hlo hcl.1 hcl.2 d ?_
  have e1 : (if i64 b < i64 a then i64 b else i64 a) = i64 (zmin a b) := by
    unfold zmin
    by_cases h : b < a
    · rw [if_pos ((i64_lt hb ha).mpr h), if_pos h]
    · rw [if_neg (fun q => h ((i64_lt hb ha).mp q)), if_neg h]
  rw [e1]
  exact kk
theorem z_labs (E : zE p s m args meth c cc own nm ws ml ret D cA) {index : Nat} {a : Int} (ha : zrl a) (hl : Cond.methodLink own index Lib.MathLoose.abs_long.x ∈ ws) (h2 : Cond.static Lib.MathLoose.abs_long.x ∈ ws) (h3 : Cond.initialized "java/lang/Math" ∈ ws) (h4 : Cond.code Lib.MathLoose.abs_long.x Lib.MathLoose.abs_long.code 2 (some .long) ∈ ws) (hsz : ls.size = ml) (hfr : 1 ≤ R.frames) (hlo : (rest.map fun v => v.category).sum + 13 ≤ R.locals) (hcl : cells ≤ R.cells ∧ slots ≤ R.slots) (d : decode cc pc = .ok (.invokestatic index, 3))
    (kk : W p l e R s m args below meth c H locs cells slots Q (F0 m (pc + 3) ls (.long (i64 (zabs a)) :: rest))) : W p l e R s m args below meth c H locs cells slots Q (F0 m pc ls (.long (i64 a) :: rest)) := by
  refine va_mabs_long E.1 E.2.1 (E.2.2.1.trans hsz.symm) E.2.2.2.1 (E.2.2.2.2.1 _ hl) (E.2.2.2.2.1 _ h2) (E.2.2.2.2.1 _ h3) (E.2.2.2.2.1 _ h4) hfr hlo hcl.1 hcl.2 d ?_
  have z0 : zrl 0 := ⟨by decide, by decide⟩
  have e0 : (0 : Int64) = i64 0 := by decide +kernel
  have e1 : (if 0 < i64 a then i64 a else -i64 a) = i64 (zabs a) := by
    unfold zabs
    by_cases h : 0 < a
    · rw [if_pos (by rw [e0]; exact (i64_lt z0 ha).mpr h), if_pos (by omega)]
    · rw [if_neg (fun q => h ((i64_lt z0 ha).mp (by rw [← e0]; exact q))), i64_neg]
      by_cases h2 : 0 ≤ a
      · rw [if_pos h2, show a = 0 by omega]
        rfl
      · rw [if_neg h2]
  rw [e1]
  exact kk
end ZML
abbrev rX0_init : Room := { frames := 1, cells := 0, slots := 0, locals := 24 }
set_option maxHeartbeats 4000000 in
set_option maxRecDepth 100000 in
theorem E_init (l : Launch) (D : va_G) (cA : Nat → ClassId) (B0 : Nat) (L : zL) (n q : Nat) (num x : Int) : zM l yX0_init wsX0_init rX0_init [.ref q, .int (i32 num), .int (i32 x)] D cA B0 (zW D B0 (zu L 10 n (some (q, .inr (0, [.int 0, .int 0, .int 0, .int 0]))))) (fun v H => v = none ∧ zW D B0 (zu L 10 n (some (q, .inr (0, [.int (i32 num), .int (i32 x), .int (i32 1), .int 0])))) H) := by
  refine z_met (cc := cX0_init) (maxL := 3) (ret := none) (by decide) rfl (Nat.le_of_ble_eq_true rfl) ?_
  intro p e s m args below meth c ls Q hQ E hP hB hS hl
  have hl : lv_has ls 3 [(0, .ref q), (1, .int (i32 num)), (2, .int (i32 x))] := hl
  have iX0 : ∀ w ∈ u_ws RX0 TX0 4, w ∈ wsX0_init := by decide +kernel
  have X : zX D B0 (zu L 10 n (some (q, .inr (0, [.int 0, .int 0, .int 0, .int 0])))) s.heap s.heap [] := ⟨hP, hS⟩
  refine lv_aload_n E.1 E.2.1 dX0_init_0 rfl (lv_at hl 0 rfl) ?_
  refine z_obj E (by decide +kernel) (by decide +kernel) (by decide +kernel) hl.1 dX0_init_1 (by decide) (Nat.le_of_ble_eq_true rfl) ?_
  refine lv_aload_n E.1 E.2.1 dX0_init_4 rfl (lv_at hl 0 rfl) ?_
  refine lv_iload_n E.1 E.2.1 dX0_init_5 rfl (lv_at hl 1 rfl) ?_
  refine z_putF E X rfl (show (zu L 10 n (some (q, .inr (0, [.int 0, .int 0, .int 0, .int 0])))) 10 n = some (q, .inr (0, [.int 0, .int 0, .int 0, .int 0])) by simp [zu]) rfl iX0 tyX0 tyX0_ok nmX0 0 (by decide) (by decide +kernel) rfl rfl rfl rfl (Nat.le_of_ble_eq_true rfl) dX0_init_6 (fun H locs X => ?_)
  have X : zX D B0 (zu L 10 n (some (q, .inr (0, [.int (i32 num), .int 0, .int 0, .int 0])))) s.heap H locs := X.to (fun k i => by simp only [zu]; (repeat' split) <;> first | rfl | (exfalso; omega))
  refine lv_aload_n E.1 E.2.1 dX0_init_9 rfl (lv_at hl 0 rfl) ?_
  refine lv_iload_n E.1 E.2.1 dX0_init_10 rfl (lv_at hl 2 rfl) ?_
  refine z_putF E X rfl (show (zu L 10 n (some (q, .inr (0, [.int (i32 num), .int 0, .int 0, .int 0])))) 10 n = some (q, .inr (0, [.int (i32 num), .int 0, .int 0, .int 0])) by simp [zu]) rfl iX0 tyX0 tyX0_ok nmX0 1 (by decide) (by decide +kernel) rfl rfl rfl rfl (Nat.le_of_ble_eq_true rfl) dX0_init_11 (fun H locs X => ?_)
  have X : zX D B0 (zu L 10 n (some (q, .inr (0, [.int (i32 num), .int (i32 x), .int 0, .int 0])))) s.heap H locs := X.to (fun k i => by simp only [zu]; (repeat' split) <;> first | rfl | (exfalso; omega))
  refine lv_aload_n E.1 E.2.1 dX0_init_14 rfl (lv_at hl 0 rfl) ?_
  refine z_iconst E dX0_init_15 ?_
  refine z_put E X (show (zu L 10 n (some (q, .inr (0, [.int (i32 num), .int (i32 x), .int 0, .int 0])))) 10 n = some (q, .inr (0, [.int (i32 num), .int (i32 x), .int 0, .int 0])) by simp [zu]) rfl iX0 tyX0 tyX0_ok nmX0 2 (by decide) (by decide +kernel) rfl (z_nb (by omega)).1 (z_nb (by omega)).2 (Nat.le_of_ble_eq_true rfl) dX0_init_16 (fun H locs X => ?_)
  have X : zX D B0 (zu L 10 n (some (q, .inr (0, [.int (i32 num), .int (i32 x), .int (i32 1), .int 0])))) s.heap H locs := X.to (fun k i => by simp only [zu]; (repeat' split) <;> first | rfl | (exfalso; omega))
  exact z_retv E X hQ (⟨rfl, X.1⟩) dX0_init_19

abbrev rX3_init : Room := { frames := 1, cells := 1, slots := 64, locals := 24 }
set_option maxHeartbeats 4000000 in
set_option maxRecDepth 100000 in
theorem T_init (l : Launch) (D : va_G) (cA : Nat → ClassId) (B0 : Nat) (L : zL) (n q : Nat) (k1 x z y st : Int) : zM l yX3_init wsX3_init rX3_init [.ref q, .int (i32 k1), .int (i32 x), .int (i32 z), .int (i32 y), .int (i32 st)] D cA B0 (zW D B0 (zu L 12 n (some (q, .inr (3, [.int 0, .int 0, .int 0, .int 0, .int 0, .null]))))) (fun v H => v = none ∧ ∃ q1 : Nat, zW D B0 (zu (zu L 12 n (some (q, .inr (3, [.int (i32 k1), .int (i32 x), .int (i32 z), .int (i32 y), .int (i32 st), .ref q1])))) 13 n (some (kI cA q1 64 (fun _ => -1)))) H) := by
  refine z_met (cc := cX3_init) (maxL := 6) (ret := none) (by decide) rfl (Nat.le_of_ble_eq_true rfl) ?_
  intro p e s m args below meth c ls Q hQ E hP hB hS hl
  have hl : lv_has ls 6 [(0, .ref q), (1, .int (i32 k1)), (2, .int (i32 x)), (3, .int (i32 z)), (4, .int (i32 y)), (5, .int (i32 st))] := hl
  have iX3 : ∀ w ∈ u_ws RX3 TX3 6, w ∈ wsX3_init := by decide +kernel
  have X : zX D B0 (zu L 12 n (some (q, .inr (3, [.int 0, .int 0, .int 0, .int 0, .int 0, .null])))) s.heap s.heap [] := ⟨hP, hS⟩
  refine lv_aload_n E.1 E.2.1 dX3_init_0 rfl (lv_at hl 0 rfl) ?_
  refine z_obj E (by decide +kernel) (by decide +kernel) (by decide +kernel) hl.1 dX3_init_1 (by decide) (Nat.le_of_ble_eq_true rfl) ?_
  refine lv_aload_n E.1 E.2.1 dX3_init_4 rfl (lv_at hl 0 rfl) ?_
  refine lv_iload_n E.1 E.2.1 dX3_init_5 rfl (lv_at hl 1 rfl) ?_
  refine z_putF E X rfl (show (zu L 12 n (some (q, .inr (3, [.int 0, .int 0, .int 0, .int 0, .int 0, .null])))) 12 n = some (q, .inr (3, [.int 0, .int 0, .int 0, .int 0, .int 0, .null])) by simp [zu]) rfl iX3 tyX3 tyX3_ok nmX3 0 (by decide) (by decide +kernel) rfl rfl rfl rfl (Nat.le_of_ble_eq_true rfl) dX3_init_6 (fun H locs X => ?_)
  have X : zX D B0 (zu L 12 n (some (q, .inr (3, [.int (i32 k1), .int 0, .int 0, .int 0, .int 0, .null])))) s.heap H locs := X.to (fun k i => by simp only [zu]; (repeat' split) <;> first | rfl | (exfalso; omega))
  refine lv_aload_n E.1 E.2.1 dX3_init_9 rfl (lv_at hl 0 rfl) ?_
  refine lv_iload_n E.1 E.2.1 dX3_init_10 rfl (lv_at hl 2 rfl) ?_
  refine z_putF E X rfl (show (zu L 12 n (some (q, .inr (3, [.int (i32 k1), .int 0, .int 0, .int 0, .int 0, .null])))) 12 n = some (q, .inr (3, [.int (i32 k1), .int 0, .int 0, .int 0, .int 0, .null])) by simp [zu]) rfl iX3 tyX3 tyX3_ok nmX3 1 (by decide) (by decide +kernel) rfl rfl rfl rfl (Nat.le_of_ble_eq_true rfl) dX3_init_11 (fun H locs X => ?_)
  have X : zX D B0 (zu L 12 n (some (q, .inr (3, [.int (i32 k1), .int (i32 x), .int 0, .int 0, .int 0, .null])))) s.heap H locs := X.to (fun k i => by simp only [zu]; (repeat' split) <;> first | rfl | (exfalso; omega))
  refine lv_aload_n E.1 E.2.1 dX3_init_14 rfl (lv_at hl 0 rfl) ?_
  refine lv_iload_n E.1 E.2.1 dX3_init_15 rfl (lv_at hl 3 rfl) ?_
  refine z_putF E X rfl (show (zu L 12 n (some (q, .inr (3, [.int (i32 k1), .int (i32 x), .int 0, .int 0, .int 0, .null])))) 12 n = some (q, .inr (3, [.int (i32 k1), .int (i32 x), .int 0, .int 0, .int 0, .null])) by simp [zu]) rfl iX3 tyX3 tyX3_ok nmX3 2 (by decide) (by decide +kernel) rfl rfl rfl rfl (Nat.le_of_ble_eq_true rfl) dX3_init_16 (fun H locs X => ?_)
  have X : zX D B0 (zu L 12 n (some (q, .inr (3, [.int (i32 k1), .int (i32 x), .int (i32 z), .int 0, .int 0, .null])))) s.heap H locs := X.to (fun k i => by simp only [zu]; (repeat' split) <;> first | rfl | (exfalso; omega))
  refine lv_aload_n E.1 E.2.1 dX3_init_19 rfl (lv_at hl 0 rfl) ?_
  refine lv_iload E.1 E.2.1 dX3_init_20 (lv_at hl 4 rfl) ?_
  refine z_putF E X rfl (show (zu L 12 n (some (q, .inr (3, [.int (i32 k1), .int (i32 x), .int (i32 z), .int 0, .int 0, .null])))) 12 n = some (q, .inr (3, [.int (i32 k1), .int (i32 x), .int (i32 z), .int 0, .int 0, .null])) by simp [zu]) rfl iX3 tyX3 tyX3_ok nmX3 3 (by decide) (by decide +kernel) rfl rfl rfl rfl (Nat.le_of_ble_eq_true rfl) dX3_init_22 (fun H locs X => ?_)
  have X : zX D B0 (zu L 12 n (some (q, .inr (3, [.int (i32 k1), .int (i32 x), .int (i32 z), .int (i32 y), .int 0, .null])))) s.heap H locs := X.to (fun k i => by simp only [zu]; (repeat' split) <;> first | rfl | (exfalso; omega))
  refine lv_aload_n E.1 E.2.1 dX3_init_25 rfl (lv_at hl 0 rfl) ?_
  refine lv_iload E.1 E.2.1 dX3_init_26 (lv_at hl 5 rfl) ?_
  refine z_putF E X rfl (show (zu L 12 n (some (q, .inr (3, [.int (i32 k1), .int (i32 x), .int (i32 z), .int (i32 y), .int 0, .null])))) 12 n = some (q, .inr (3, [.int (i32 k1), .int (i32 x), .int (i32 z), .int (i32 y), .int 0, .null])) by simp [zu]) rfl iX3 tyX3 tyX3_ok nmX3 4 (by decide) (by decide +kernel) rfl rfl rfl rfl (Nat.le_of_ble_eq_true rfl) dX3_init_28 (fun H locs X => ?_)
  have X : zX D B0 (zu L 12 n (some (q, .inr (3, [.int (i32 k1), .int (i32 x), .int (i32 z), .int (i32 y), .int (i32 st), .null])))) s.heap H locs := X.to (fun k i => by simp only [zu]; (repeat' split) <;> first | rfl | (exfalso; omega))
  refine lv_aload_n E.1 E.2.1 dX3_init_31 rfl (lv_at hl 0 rfl) ?_
  refine z_bipush E dX3_init_32 (by decide +kernel) ?_
  refine z_newi (N := 64) E X 13 n (by decide +kernel) (by omega) (by decide) (by decide) (by decide) dX3_init_34 (fun q_1 H X => ?_)
  have X : zX D B0 (zu (zu L 12 n (some (q, .inr (3, [.int (i32 k1), .int (i32 x), .int (i32 z), .int (i32 y), .int (i32 st), .null])))) 13 n (some (kI cA q_1 64 (fun _ => 0)))) s.heap H locs := X
  refine W.widen (k := 1) (n := 64) (by omega) (by omega) ?_
  refine z_putF E X rfl (show (zu (zu L 12 n (some (q, .inr (3, [.int (i32 k1), .int (i32 x), .int (i32 z), .int (i32 y), .int (i32 st), .null])))) 13 n (some (kI cA q_1 64 (fun _ => 0)))) 12 n = some (q, .inr (3, [.int (i32 k1), .int (i32 x), .int (i32 z), .int (i32 y), .int (i32 st), .null])) by simp [zu]) rfl iX3 tyX3 tyX3_ok nmX3 5 (by decide) (by decide +kernel) rfl rfl rfl rfl (Nat.le_of_ble_eq_true rfl) dX3_init_36 (fun H locs X => ?_)
  have X : zX D B0 (zu (zu L 12 n (some (q, .inr (3, [.int (i32 k1), .int (i32 x), .int (i32 z), .int (i32 y), .int (i32 st), .ref q_1])))) 13 n (some (kI cA q_1 64 (fun _ => 0)))) s.heap H locs := X.to (fun k i => by simp only [zu]; (repeat' split) <;> first | rfl | (exfalso; omega))
  refine lv_aload_n E.1 E.2.1 dX3_init_39 rfl (lv_at hl 0 rfl) ?_
  refine z_get E X (show (zu (zu L 12 n (some (q, .inr (3, [.int (i32 k1), .int (i32 x), .int (i32 z), .int (i32 y), .int (i32 st), .ref q_1])))) 13 n (some (kI cA q_1 64 (fun _ => 0)))) 12 n = some (q, .inr (3, [.int (i32 k1), .int (i32 x), .int (i32 z), .int (i32 y), .int (i32 st), .ref q_1])) by simp [zu]) rfl iX3 5 (by decide) (by decide +kernel) (v := .ref q_1) rfl dX3_init_40 ?_
  refine z_iconst E dX3_init_43 ?_
  refine z_callJ (As := [.ref q_1, .int (i32 (-1))]) (rest := []) (n := 2) E X (J_fill l D cA B0 (zu (zu L 12 n (some (q, .inr (3, [.int (i32 k1), .int (i32 x), .int (i32 z), .int (i32 y), .int (i32 st), .ref q_1])))) 13 n (some (kI cA q_1 64 (fun _ => 0)))) 13 n q_1 64 (fun _ => 0) (-1) (by simp [zu]) (by decide)) gX3_init_J7_fill_53178 rfl (by decide +kernel) ⟨by decide, by decide⟩ rfl hl.1 rfl (Nat.le_of_ble_eq_true rfl) dX3_init_44 ⟨by decide, by decide⟩ X.1 1 64 ⟨rfl, rfl⟩ (fun v H locs hv hS_2 => ?_)
  obtain ⟨rfl, hw⟩ := hv
  have X : zX D B0 (zu (zu L 12 n (some (q, .inr (3, [.int (i32 k1), .int (i32 x), .int (i32 z), .int (i32 y), .int (i32 st), .ref q_1])))) 13 n (some (kI cA q_1 64 (fun _ => -1)))) s.heap H locs := zX.to ⟨hw, hS_2⟩ (fun k i => by simp only [zu]; (repeat' split) <;> first | rfl | (exfalso; omega))
  exact z_retv E X hQ (⟨rfl, q_1, X.1⟩) dX3_init_47

abbrev rX4_init : Room := { frames := 1, cells := 0, slots := 0, locals := 24 }
set_option maxHeartbeats 4000000 in
set_option maxRecDepth 100000 in
theorem O_init (l : Launch) (D : va_G) (cA : Nat → ClassId) (B0 : Nat) (L : zL) (n q r1 r2 : Nat) (t1 : Int) : zM l yX4_init wsX4_init rX4_init [.ref q, .ref r1, .ref r2, .int (i32 t1)] D cA B0 (zW D B0 (zu L 14 n (some (q, .inr (4, [.null, .null, .int 0]))))) (fun v H => v = none ∧ zW D B0 (zu L 14 n (some (q, .inr (4, [.ref r1, .ref r2, .int (i32 t1)])))) H) := by
  refine z_met (cc := cX4_init) (maxL := 4) (ret := none) (by decide) rfl (Nat.le_of_ble_eq_true rfl) ?_
  intro p e s m args below meth c ls Q hQ E hP hB hS hl
  have hl : lv_has ls 4 [(0, .ref q), (1, .ref r1), (2, .ref r2), (3, .int (i32 t1))] := hl
  have iX4 : ∀ w ∈ u_ws RX4 TX4 3, w ∈ wsX4_init := by decide +kernel
  have X : zX D B0 (zu L 14 n (some (q, .inr (4, [.null, .null, .int 0])))) s.heap s.heap [] := ⟨hP, hS⟩
  refine lv_aload_n E.1 E.2.1 dX4_init_0 rfl (lv_at hl 0 rfl) ?_
  refine z_obj E (by decide +kernel) (by decide +kernel) (by decide +kernel) hl.1 dX4_init_1 (by decide) (Nat.le_of_ble_eq_true rfl) ?_
  refine lv_aload_n E.1 E.2.1 dX4_init_4 rfl (lv_at hl 0 rfl) ?_
  refine lv_aload_n E.1 E.2.1 dX4_init_5 rfl (lv_at hl 1 rfl) ?_
  refine z_putF E X rfl (show (zu L 14 n (some (q, .inr (4, [.null, .null, .int 0])))) 14 n = some (q, .inr (4, [.null, .null, .int 0])) by simp [zu]) rfl iX4 tyX4 tyX4_ok nmX4 0 (by decide) (by decide +kernel) rfl rfl rfl rfl (Nat.le_of_ble_eq_true rfl) dX4_init_6 (fun H locs X => ?_)
  have X : zX D B0 (zu L 14 n (some (q, .inr (4, [.ref r1, .null, .int 0])))) s.heap H locs := X.to (fun k i => by simp only [zu]; (repeat' split) <;> first | rfl | (exfalso; omega))
  refine lv_aload_n E.1 E.2.1 dX4_init_9 rfl (lv_at hl 0 rfl) ?_
  refine lv_aload_n E.1 E.2.1 dX4_init_10 rfl (lv_at hl 2 rfl) ?_
  refine z_putF E X rfl (show (zu L 14 n (some (q, .inr (4, [.ref r1, .null, .int 0])))) 14 n = some (q, .inr (4, [.ref r1, .null, .int 0])) by simp [zu]) rfl iX4 tyX4 tyX4_ok nmX4 1 (by decide) (by decide +kernel) rfl rfl rfl rfl (Nat.le_of_ble_eq_true rfl) dX4_init_11 (fun H locs X => ?_)
  have X : zX D B0 (zu L 14 n (some (q, .inr (4, [.ref r1, .ref r2, .int 0])))) s.heap H locs := X.to (fun k i => by simp only [zu]; (repeat' split) <;> first | rfl | (exfalso; omega))
  refine lv_aload_n E.1 E.2.1 dX4_init_14 rfl (lv_at hl 0 rfl) ?_
  refine lv_iload_n E.1 E.2.1 dX4_init_15 rfl (lv_at hl 3 rfl) ?_
  refine z_putF E X rfl (show (zu L 14 n (some (q, .inr (4, [.ref r1, .ref r2, .int 0])))) 14 n = some (q, .inr (4, [.ref r1, .ref r2, .int 0])) by simp [zu]) rfl iX4 tyX4 tyX4_ok nmX4 2 (by decide) (by decide +kernel) rfl rfl rfl rfl (Nat.le_of_ble_eq_true rfl) dX4_init_16 (fun H locs X => ?_)
  have X : zX D B0 (zu L 14 n (some (q, .inr (4, [.ref r1, .ref r2, .int (i32 t1)])))) s.heap H locs := X.to (fun k i => by simp only [zu]; (repeat' split) <;> first | rfl | (exfalso; omega))
  exact z_retv E X hQ (⟨rfl, X.1⟩) dX4_init_19

abbrev rX2_init : Room := { frames := 1, cells := 1, slots := 64, locals := 24 }
set_option maxHeartbeats 4000000 in
set_option maxRecDepth 100000 in
theorem S_init (l : Launch) (D : va_G) (cA : Nat → ClassId) (B0 : Nat) (L : zL) (n q : Nat) (k1 : Int) (nn : Nat) (hnn : nn ≤ 64) : zM l yX2_init wsX2_init rX2_init [.ref q, .int (i32 k1), .int (i32 (nn : Int))] D cA B0 (zW D B0 (zu L 15 n (some (q, .inr (2, [.int 0, .null]))))) (fun v H => v = none ∧ ∃ q1 : Nat, zW D B0 (zu (zu L 15 n (some (q, .inr (2, [.int (i32 k1), .ref q1])))) 16 n (some (kI cA q1 nn (fun _ => 0)))) H) := by
  refine z_met (cc := cX2_init) (maxL := 3) (ret := none) (by decide) rfl (Nat.le_of_ble_eq_true rfl) ?_
  intro p e s m args below meth c ls Q hQ E hP hB hS hl
  have hl : lv_has ls 3 [(0, .ref q), (1, .int (i32 k1)), (2, .int (i32 (nn : Int)))] := hl
  have iX2 : ∀ w ∈ u_ws RX2 TX2 2, w ∈ wsX2_init := by decide +kernel
  have X : zX D B0 (zu L 15 n (some (q, .inr (2, [.int 0, .null])))) s.heap s.heap [] := ⟨hP, hS⟩
  refine lv_aload_n E.1 E.2.1 dX2_init_0 rfl (lv_at hl 0 rfl) ?_
  refine z_obj E (by decide +kernel) (by decide +kernel) (by decide +kernel) hl.1 dX2_init_1 (by decide) (Nat.le_of_ble_eq_true rfl) ?_
  refine lv_aload_n E.1 E.2.1 dX2_init_4 rfl (lv_at hl 0 rfl) ?_
  refine lv_iload_n E.1 E.2.1 dX2_init_5 rfl (lv_at hl 1 rfl) ?_
  refine z_putF E X rfl (show (zu L 15 n (some (q, .inr (2, [.int 0, .null])))) 15 n = some (q, .inr (2, [.int 0, .null])) by simp [zu]) rfl iX2 tyX2 tyX2_ok nmX2 0 (by decide) (by decide +kernel) rfl rfl rfl rfl (Nat.le_of_ble_eq_true rfl) dX2_init_6 (fun H locs X => ?_)
  have X : zX D B0 (zu L 15 n (some (q, .inr (2, [.int (i32 k1), .null])))) s.heap H locs := X.to (fun k i => by simp only [zu]; (repeat' split) <;> first | rfl | (exfalso; omega))
  refine lv_aload_n E.1 E.2.1 dX2_init_9 rfl (lv_at hl 0 rfl) ?_
  refine lv_iload_n E.1 E.2.1 dX2_init_10 rfl (lv_at hl 2 rfl) ?_
  refine z_newi (N := nn) E X 16 n (by decide +kernel) (by omega) (by omega) (by decide) (by show 0 + nn ≤ 64; omega) dX2_init_11 (fun q_1 H X => ?_)
  have X : zX D B0 (zu (zu L 15 n (some (q, .inr (2, [.int (i32 k1), .null])))) 16 n (some (kI cA q_1 nn (fun _ => 0)))) s.heap H locs := X
  refine W.widen (k := 1) (n := 64) (by omega) (by omega) ?_
  refine z_putF E X rfl (show (zu (zu L 15 n (some (q, .inr (2, [.int (i32 k1), .null])))) 16 n (some (kI cA q_1 nn (fun _ => 0)))) 15 n = some (q, .inr (2, [.int (i32 k1), .null])) by simp [zu]) rfl iX2 tyX2 tyX2_ok nmX2 1 (by decide) (by decide +kernel) rfl rfl rfl rfl (Nat.le_of_ble_eq_true rfl) dX2_init_13 (fun H locs X => ?_)
  have X : zX D B0 (zu (zu L 15 n (some (q, .inr (2, [.int (i32 k1), .ref q_1])))) 16 n (some (kI cA q_1 nn (fun _ => 0)))) s.heap H locs := X.to (fun k i => by simp only [zu]; (repeat' split) <;> first | rfl | (exfalso; omega))
  exact z_retv E X hQ (⟨rfl, q_1, X.1⟩) dX2_init_16

