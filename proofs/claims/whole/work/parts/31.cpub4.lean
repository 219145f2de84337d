section ZCP
variable {p : Program} {l : Launch} {e : Env} {R : Room} {s : State} {m : MethodId} {args : Array Value} {below : List Frame} {meth : Method} {c : Code} {H : Heap} {locs : List Loc} {cells slots : Nat} {Q : State → Prop}
variable {cc : ByteArray} {pc : Nat} {ls : Array Slot} {rest : List Value} {own nm : String} {ws : List Cond} {ml : Nat} {ret : Option FieldType} {D : va_G} {cA : Nat → ClassId} {B0 : Nat} {L : zL}
def zcp (f g : Nat → Int) (sp dp n : Nat) : Nat → Int := fun j => if dp ≤ j ∧ j < dp + n then f (sp + (j - dp)) else g j
theorem zcp_of (f g : Nat → Int) (sp dp n : Nat) : va_cpy (fun j => i32 (f j)) (fun j => i32 (g j)) sp dp n = fun j => i32 (zcp f g sp dp n j) := by
  funext j
  unfold va_cpy zcp
  split <;> rfl
/-- System.arraycopy between two rows of ints: the target's place alone changes -/
theorem z_copyi (E : zE p s m args meth c cc own nm ws ml ret D cA) (X : zX D B0 L s.heap H locs) {index : Nat} (hl : Cond.methodLink own index arraycopyName ∈ ws) (hn : Cond.native arraycopyName ∈ ws) (hst : Cond.static arraycopyName ∈ ws) (hini : Cond.initialized "java/lang/System" ∈ ws) {k0 i0 a0 n0 k1 i1 a n1 : Nat} {f g : Nat → Int} (h0 : L k0 i0 = some (kI cA a0 n0 f)) (h1 : L k1 i1 = some (kI cA a n1 g)) {zs zd zn : Int} (sp dp n : Nat) (es : zs = (sp : Int)) (ed : zd = (dp : Int)) (en : zn = (n : Int)) (b0 : sp + n ≤ n0) (b1 : dp + n ≤ n1) (b2 : n0 ≤ 100000) (b3 : n1 ≤ 100000) (hsz : ls.size = ml) (hfr : 1 ≤ R.frames) (hlo : (rest.map fun v => v.category).sum + (nativeFrameWords "java/lang/System" "arraycopy" 5 + 11) ≤ R.locals) (d : decode cc pc = .ok (.invokestatic index, 3))
    (kk : ∀ (H : Heap) (locs : List Loc), zX D B0 (zu L k1 i1 (some (kI cA a n1 (zcp f g sp dp n)))) s.heap H locs → W p l e R s m args below meth c H locs cells slots Q (F0 m (pc + 3) ls rest)) : W p l e R s m args below meth c H locs cells slots Q (F0 m pc ls (.int (i32 zn) :: .int (i32 zd) :: .ref a :: .int (i32 zs) :: .ref a0 :: rest)) := by
  subst es ed en
  have neg : ∀ z : Nat, z ≤ 100000 → ¬ i32 (z : Int) < 0 := fun z hz q => by
    rw [i32_0, i32_lt ⟨by omega, by omega⟩ zr0] at q
    omega
  have tn : ∀ z : Nat, z ≤ 100000 → (i32 (z : Int)).toInt = (z : Int) := fun z hz => i32_toInt (by omega) (by omega)
  have cn : ∀ z : Nat, z ≤ 100000 → (i32 (z : Int)).toNatClampNeg = z := fun z hz => i32_clampN rfl (by omega)
  intro T hT Y
  have hts := E.2.2.2.2.1
  have hK := E.2.2.2.2.2.1.1
  have hc0 : H[a0]? = some (vp_cell (cA 0) (n0, .inl (fun j => i32 (f j)))) := (X.1.1 k0 i0 _ h0).1
  have hc1 : H[a]? = some (vp_cell (cA 0) (n1, .inl (fun j => i32 (g j)))) := (X.1.1 k1 i1 _ h1).1
  obtain ⟨-, kd0, hk0, cm0, hkk0⟩ := (hK.2 0 _ rfl).1 n0 (fun j => .int (i32 (f j)))
  obtain ⟨-, kd1, hk1, cm1, hkk1⟩ := (hK.2 0 _ rfl).1 n1 (fun j => .int (i32 (g j)))
  obtain ⟨vm', X', step⟩ := Y.arraycopy E.1 E.2.2.2.1 (hts _ hl) (hts _ hn) (hts _ hst) (hts _ hini) (src := a0) (dst := a) (cs := vp_cell (cA 0) (n0, .inl (fun j => i32 (f j)))) (cd := vp_cell (cA 0) (n1, .inl (fun j => i32 (g j)))) (srcPos := i32 (sp : Int)) (destPos := i32 (dp : Int)) (n := i32 (n : Int)) (by rw [hT]; exact hc0) (by rw [hT]; exact hc1)
    (fun _ h => by cases h) (fun _ h => by cases h) (fun h => by cases h) (fun h => by cases h) hk0 hk1 hkk0 hkk1 (by simp [refKind]) (neg sp (by omega)) (neg dp (by omega)) (neg n (by omega))
    (by rw [tn sp (by omega), tn n (by omega)]; show ¬ _ > ((arrV (cA 0) n0 (fun j => .int (i32 (f j)))).slots.size : Int); rw [arrV_size]; omega)
    (by rw [tn dp (by omega), tn n (by omega)]; show ¬ _ > ((arrV (cA 0) n1 (fun j => .int (i32 (g j)))).slots.size : Int); rw [arrV_size]; omega)
    (fun vm₁ _ i hi => by
      rw [cn n (by omega)] at hi
      have ev : (vp_cell (cA 0) (n0, .inl (fun j => i32 (f j)))).slots.getD ((i32 (sp : Int)).toNatClampNeg + i) .null = .int (i32 (f (sp + i))) := by
        rw [cn sp (by omega)]
        show (arrV (cA 0) n0 (fun j => .int (i32 (f j)))).slots.getD _ _ = _
        rw [Array.getD_eq_getD_getElem?, arrV_read _ _ (by omega)]
        rfl
      refine ⟨?_, ?_⟩
      · rw [ev]
        rfl
      · rw [ev]
        exact trivial)
    (g := F0 m pc ls (.int (i32 (n : Int)) :: .int (i32 (dp : Int)) :: .ref a :: .int (i32 (sp : Int)) :: .ref a0 :: rest)) rfl (by rw [E.2.2.1, hsz]) (rest := rest) rfl (by rw [E.2.1]; exact d) hfr (by show 2 * 0 + _ + _ ≤ _; omega)
  have e1 : copied (vp_cell (cA 0) (n0, .inl (fun j => i32 (f j)))) (vp_cell (cA 0) (n1, .inl (fun j => i32 (g j)))) (i32 (sp : Int)) (i32 (dp : Int)) (i32 (n : Int)) = vp_cell (cA 0) (n1, .inl (fun j => i32 (zcp f g sp dp n j))) := by
    have e2 := va_copied (fun z => .int z) (cA 0) (cA 0) (n0 := n0) (n1 := n1) (sp := (i32 (sp : Int)).toNatClampNeg) (dp := (i32 (dp : Int)).toNatClampNeg) (n := (i32 (n : Int)).toNatClampNeg) (fun j => i32 (f j)) (fun j => i32 (g j)) (by rw [cn sp (by omega), cn n (by omega)]; exact b0)
    have e3 : va_cpy (fun j => i32 (f j)) (fun j => i32 (g j)) (i32 (sp : Int)).toNatClampNeg (i32 (dp : Int)).toNatClampNeg (i32 (n : Int)).toNatClampNeg = fun j => i32 (zcp f g sp dp n j) := by
      rw [cn sp (by omega), cn dp (by omega), cn n (by omega), zcp_of]
    rw [e3] at e2
    exact e2
  rw [e1] at X' step
  have hla : a < H.size := (Array.getElem?_eq_some_iff.mp hc1).1
  have hheap : ((T.setVm vm').setCell a (vp_cell (cA 0) (n1, .inl (fun j => i32 (zcp f g sp dp n j))))).heap = H.setIfInBounds a (vp_cell (cA 0) (n1, .inl (fun j => i32 (zcp f g sp dp n j)))) := by
    rw [← hT]
    rfl
  have oq : ∀ q : Nat, q ≠ a → (H.setIfInBounds a (vp_cell (cA 0) (n1, .inl (fun j => i32 (zcp f g sp dp n j)))))[q]? = H[q]? := fun q hq => by simp [Array.getElem?_setIfInBounds, Ne.symm hq]
  have hB := (X.1.1 k1 i1 _ h1).2
  obtain ⟨t, a1, c1⟩ := kk _ _ ⟨X.1.put h1 (show (H.setIfInBounds a _)[a]? = some _ by simp [Array.getElem?_setIfInBounds, hla]) (by simp) oq, by simp; exact X.2.1, fun q g1 g2 => by
      rw [oq q (fun e => g2 (by rw [e]; exact hB))]
      exact X.2.2.1 q g1 g2, fun q hq => by
      rcases List.mem_append.mp hq with h | h
      · exact X.2.2.2 q h
      · obtain ⟨z, -, hz⟩ := List.mem_map.mp h
        rw [← hz]
        exact hB⟩ _ hheap X'
  exact ⟨t, step t a1, c1⟩
end ZCP
theorem cw_fetimes {D : va_G} {B0 : Nat} {M : zL} {cA : Nat → ClassId} {a : Nat → Nat → Nat} {G : zG} {S : zS} {H0 H : Heap} {locs : List Loc} {q : Nat} {g : Nat → Int} (hi : (q : Int) < S 8 0) (X : zX D B0 (zu (zj (layC cA a G S) M) 13 q (some (kI cA (a 13 q) 64 g))) H0 H locs) : zX D B0 (zj (layC cA a (ug G 13 q g) S) M) H0 H locs := by
  refine X.to (zu_to ?_ (fun k i hh => zj_C ?_))
  · show (if (q : Int) < S 8 0 then some (kI cA (a 13 q) 64 (ug G 13 q g 13 q)) else none) = _
    rw [if_pos hi, ug_eq]
  · unfold layC
    split <;> try rfl
    have hne : i ≠ q := fun e => hh ⟨rfl, e⟩
    rw [ug_ne hne]
abbrev rX2_nearestTo : Room := { frames := 1, cells := 0, slots := 0, locals := 24 }
set_option maxHeartbeats 4000000 in
set_option maxRecDepth 100000 in
theorem x_nearestTo (l : Launch) (D : va_G) (cA : Nat → ClassId) (B0 : Nat) (M : zL) (a : Nat → Nat → Nat) (G : zG) (S : zS) (hI : SI S) (q : Nat) (x : Int) (hq : q < 6 ∧ 0 ≤ S 23 q) (hx : -100000000000 ≤ x ∧ x ≤ 100000000000) : zM l yX2_nearestTo wsX2_nearestTo rX2_nearestTo [.ref (a 15 q), .long (i64 x)] D cA B0 (zW D B0 (zj (layC cA a G S) M)) (fun v H => v = some (.int (i32 (AS (S 24 q) x))) ∧ zW D B0 (zj (layC cA a G S) M) H) := by
  refine z_met (cc := cX2_nearestTo) (maxL := 7) (ret := (some .int)) (by decide) rfl (Nat.le_of_ble_eq_true rfl) ?_
  intro p e s m args below meth c ls Q hQ E hP hB hS hl
  have hl : lv_has ls 7 [(0, .ref (a 15 q)), (1, .long (i64 x))] := hl
  have iX2 : ∀ w ∈ u_ws RX2 TX2 2, w ∈ wsX2_nearestTo := by decide +kernel
  have X : zX D B0 (zj (layC cA a G S) M) s.heap s.heap [] := ⟨hP, hS⟩
  have h4 := hI.2.2.2.2.1.1 q hq.1
  refine lv_aload_n E.1 E.2.1 dX2_nearestTo_0 rfl (lv_at hl 0 rfl) ?_
  refine z_get E X (lC_15 M cA a G S q ⟨by omega, by omega⟩) rfl iX2 0 (by decide) (by decide +kernel) (v := .int (i32 (S 24 q))) rfl dX2_nearestTo_1 ?_
  refine z_fne E 13 ⟨by omega, by omega⟩ dX2_nearestTo_4 (by decide) (fun h4_1 => ?_) (fun h4_1 => ?_)
  · refine lv_aload_n E.1 E.2.1 dX2_nearestTo_13 rfl (lv_at hl 0 rfl) ?_
    refine z_get E X (lC_15 M cA a G S q ⟨by omega, by omega⟩) rfl iX2 0 (by decide) (by decide +kernel) (v := .int (i32 (S 24 q))) rfl dX2_nearestTo_14 ?_
    refine z_iconst E dX2_nearestTo_17 ?_
    refine z_cne E 27 ⟨by omega, by omega⟩ ⟨by omega, by omega⟩ dX2_nearestTo_18 (by decide) (fun h18_2 => ?_) (fun h18_2 => ?_)
    · refine z_ldc2 (v := 2147483647) (z := 2147483647) E (by decide +kernel) (by decide +kernel) dX2_nearestTo_27 ?_
      refine lv_lstore_n (lv' := [(3, .long (i64 2147483647)), (0, .ref (a 15 q)), (1, .long (i64 x))]) E.1 E.2.1 dX2_nearestTo_30 rfl hl (by decide) rfl (fun ls hl => ?_)
      refine lv_lload_n E.1 E.2.1 dX2_nearestTo_31 rfl (lv_at hl 0 rfl) ?_
      refine z_lneg E dX2_nearestTo_32 ?_
      refine z_lconst (z := 1) E dX2_nearestTo_33 (by decide +kernel) ?_
      refine z_lsub E dX2_nearestTo_34 ?_
      refine lv_lstore (lv' := [(5, .long (i64 ((-2147483647) - 1))), (3, .long (i64 2147483647)), (0, .ref (a 15 q)), (1, .long (i64 x))]) E.1 E.2.1 dX2_nearestTo_35 hl (by decide) rfl (fun ls hl => ?_)
      refine lv_lload E.1 E.2.1 dX2_nearestTo_37 (lv_at hl 0 rfl) ?_
      refine lv_lload_n E.1 E.2.1 dX2_nearestTo_39 rfl (lv_at hl 1 rfl) ?_
      refine lv_lload_n E.1 E.2.1 dX2_nearestTo_40 rfl (lv_at hl 3 rfl) ?_
      refine z_lmin E ⟨by omega, by omega⟩ ⟨by omega, by omega⟩ (by decide +kernel) (by decide +kernel) (by decide +kernel) (by decide +kernel) hl.1 (by decide) (Nat.le_of_ble_eq_true rfl) ⟨by decide, by decide⟩ dX2_nearestTo_41 ?_
      have hmn : (x < 2147483647 ∧ zmin 2147483647 x = x) ∨ (2147483647 ≤ x ∧ zmin 2147483647 x = 2147483647) := by unfold zmin; split <;> omega
      refine z_lmax E ⟨by omega, by omega⟩ ⟨by omega, by omega⟩ (by decide +kernel) (by decide +kernel) (by decide +kernel) (by decide +kernel) hl.1 (by decide) (Nat.le_of_ble_eq_true rfl) ⟨by decide, by decide⟩ dX2_nearestTo_44 ?_
      refine z_l2i E dX2_nearestTo_47 ?_
      have en : (zmax ((-2147483647) - 1) (zmin 2147483647 x)) = AS (S 24 q) x := by
        unfold AS LN zmax zmin
        repeat' split
        all_goals omega
      exact z_ret E X hQ (⟨congrArg (fun w => some (Value.int (i32 w))) en, X.1⟩) dX2_nearestTo_48
    · refine z_ldc2 (v := 32767) (z := 32767) E (by decide +kernel) (by decide +kernel) dX2_nearestTo_21 ?_
      refine lv_goto (tgt := 30) E.1 E.2.1 dX2_nearestTo_24 (by decide) ?_
      refine lv_lstore_n (lv' := [(3, .long (i64 32767)), (0, .ref (a 15 q)), (1, .long (i64 x))]) E.1 E.2.1 dX2_nearestTo_30 rfl hl (by decide) rfl (fun ls hl => ?_)
      refine lv_lload_n E.1 E.2.1 dX2_nearestTo_31 rfl (lv_at hl 0 rfl) ?_
      refine z_lneg E dX2_nearestTo_32 ?_
      refine z_lconst (z := 1) E dX2_nearestTo_33 (by decide +kernel) ?_
      refine z_lsub E dX2_nearestTo_34 ?_
      refine lv_lstore (lv' := [(5, .long (i64 ((-32767) - 1))), (3, .long (i64 32767)), (0, .ref (a 15 q)), (1, .long (i64 x))]) E.1 E.2.1 dX2_nearestTo_35 hl (by decide) rfl (fun ls hl => ?_)
      refine lv_lload E.1 E.2.1 dX2_nearestTo_37 (lv_at hl 0 rfl) ?_
      refine lv_lload_n E.1 E.2.1 dX2_nearestTo_39 rfl (lv_at hl 1 rfl) ?_
      refine lv_lload_n E.1 E.2.1 dX2_nearestTo_40 rfl (lv_at hl 3 rfl) ?_
      refine z_lmin E ⟨by omega, by omega⟩ ⟨by omega, by omega⟩ (by decide +kernel) (by decide +kernel) (by decide +kernel) (by decide +kernel) hl.1 (by decide) (Nat.le_of_ble_eq_true rfl) ⟨by decide, by decide⟩ dX2_nearestTo_41 ?_
      have hmn : (x < 32767 ∧ zmin 32767 x = x) ∨ (32767 ≤ x ∧ zmin 32767 x = 32767) := by unfold zmin; split <;> omega
      refine z_lmax E ⟨by omega, by omega⟩ ⟨by omega, by omega⟩ (by decide +kernel) (by decide +kernel) (by decide +kernel) (by decide +kernel) hl.1 (by decide) (Nat.le_of_ble_eq_true rfl) ⟨by decide, by decide⟩ dX2_nearestTo_44 ?_
      refine z_l2i E dX2_nearestTo_47 ?_
      have en : (zmax ((-32767) - 1) (zmin 32767 x)) = AS (S 24 q) x := by
        unfold AS LN zmax zmin
        repeat' split
        all_goals omega
      exact z_ret E X hQ (⟨congrArg (fun w => some (Value.int (i32 w))) en, X.1⟩) dX2_nearestTo_48
  · refine z_ldc2 (v := 127) (z := 127) E (by decide +kernel) (by decide +kernel) dX2_nearestTo_7 ?_
    refine lv_goto (tgt := 30) E.1 E.2.1 dX2_nearestTo_10 (by decide) ?_
    refine lv_lstore_n (lv' := [(3, .long (i64 127)), (0, .ref (a 15 q)), (1, .long (i64 x))]) E.1 E.2.1 dX2_nearestTo_30 rfl hl (by decide) rfl (fun ls hl => ?_)
    refine lv_lload_n E.1 E.2.1 dX2_nearestTo_31 rfl (lv_at hl 0 rfl) ?_
    refine z_lneg E dX2_nearestTo_32 ?_
    refine z_lconst (z := 1) E dX2_nearestTo_33 (by decide +kernel) ?_
    refine z_lsub E dX2_nearestTo_34 ?_
    refine lv_lstore (lv' := [(5, .long (i64 ((-127) - 1))), (3, .long (i64 127)), (0, .ref (a 15 q)), (1, .long (i64 x))]) E.1 E.2.1 dX2_nearestTo_35 hl (by decide) rfl (fun ls hl => ?_)
    refine lv_lload E.1 E.2.1 dX2_nearestTo_37 (lv_at hl 0 rfl) ?_
    refine lv_lload_n E.1 E.2.1 dX2_nearestTo_39 rfl (lv_at hl 1 rfl) ?_
    refine lv_lload_n E.1 E.2.1 dX2_nearestTo_40 rfl (lv_at hl 3 rfl) ?_
    refine z_lmin E ⟨by omega, by omega⟩ ⟨by omega, by omega⟩ (by decide +kernel) (by decide +kernel) (by decide +kernel) (by decide +kernel) hl.1 (by decide) (Nat.le_of_ble_eq_true rfl) ⟨by decide, by decide⟩ dX2_nearestTo_41 ?_
    have hmn : (x < 127 ∧ zmin 127 x = x) ∨ (127 ≤ x ∧ zmin 127 x = 127) := by unfold zmin; split <;> omega
    refine z_lmax E ⟨by omega, by omega⟩ ⟨by omega, by omega⟩ (by decide +kernel) (by decide +kernel) (by decide +kernel) (by decide +kernel) hl.1 (by decide) (Nat.le_of_ble_eq_true rfl) ⟨by decide, by decide⟩ dX2_nearestTo_44 ?_
    refine z_l2i E dX2_nearestTo_47 ?_
    have en : (zmax ((-127) - 1) (zmin 127 x)) = AS (S 24 q) x := by
      unfold AS LN zmax zmin
      repeat' split
      all_goals omega
    exact z_ret E X hQ (⟨congrArg (fun w => some (Value.int (i32 w))) en, X.1⟩) dX2_nearestTo_48

abbrev rX2_hasRun : Room := { frames := 0, cells := 0, slots := 0, locals := 0 }
set_option maxHeartbeats 4000000 in
set_option maxRecDepth 100000 in
theorem x_hasRun (l : Launch) (D : va_G) (cA : Nat → ClassId) (B0 : Nat) (M : zL) (a : Nat → Nat → Nat) (G : zG) (S : zS) (hI : SI S) (q : Nat) (x n : Int) (hq : q < 6 ∧ 0 ≤ S 23 q) (hx : zr x) (hn : zr n) : zM l yX2_hasRun wsX2_hasRun rX2_hasRun [.ref (a 15 q), .int (i32 x), .int (i32 n)] D cA B0 (zW D B0 (zj (layC cA a G S) M)) (fun v H => (∃ z : Int, v = some (.int (i32 z)) ∧ (z = 1 ∧ (0 ≤ x ∧ x + n ≤ S 23 q) ∨ z = 0 ∧ ¬ (0 ≤ x ∧ x + n ≤ S 23 q))) ∧ zW D B0 (zj (layC cA a G S) M) H) := by
  refine z_met (cc := cX2_hasRun) (maxL := 3) (ret := (some .boolean)) (by decide) rfl (Nat.le_of_ble_eq_true rfl) ?_
  intro p e s m args below meth c ls Q hQ E hP hB hS hl
  have hl : lv_has ls 3 [(0, .ref (a 15 q)), (1, .int (i32 x)), (2, .int (i32 n))] := hl
  have iX2 : ∀ w ∈ u_ws RX2 TX2 2, w ∈ wsX2_hasRun := by decide +kernel
  have X : zX D B0 (zj (layC cA a G S) M) s.heap s.heap [] := ⟨hP, hS⟩
  have h4 := hI.2.2.2.2.1.1 q hq.1
  unfold zr at hx hn
  refine lv_iload_n E.1 E.2.1 dX2_hasRun_0 rfl (lv_at hl 1 rfl) ?_
  refine z_flt E 23 ⟨by omega, by omega⟩ dX2_hasRun_1 (by decide) (fun h1_1 => ?_) (fun h1_1 => ?_)
  · refine z_iconst E dX2_hasRun_23 ?_
    exact z_retz E X hQ (by omega) (⟨⟨0, rfl, by omega⟩, X.1⟩) dX2_hasRun_24
  · refine lv_iload_n E.1 E.2.1 dX2_hasRun_4 rfl (lv_at hl 1 rfl) ?_
    refine z_i2l E ⟨by omega, by omega⟩ dX2_hasRun_5 ?_
    refine lv_iload_n E.1 E.2.1 dX2_hasRun_6 rfl (lv_at hl 2 rfl) ?_
    refine z_i2l E ⟨by omega, by omega⟩ dX2_hasRun_7 ?_
    refine z_ladd E dX2_hasRun_8 ?_
    refine lv_aload_n E.1 E.2.1 dX2_hasRun_9 rfl (lv_at hl 0 rfl) ?_
    refine z_get E X (lC_15 M cA a G S q ⟨by omega, by omega⟩) rfl iX2 1 (by decide) (by decide +kernel) (v := .ref (a 16 q)) rfl dX2_hasRun_10 ?_
    refine z_alen (z := S 23 q) E X 0 (lC_16 M cA a G S q ⟨by omega, by omega⟩) rfl (by omega) dX2_hasRun_13 ?_
    refine z_i2l E ⟨by omega, by omega⟩ dX2_hasRun_14 ?_
    refine z_lcmp E ⟨by omega, by omega⟩ ⟨by omega, by omega⟩ dX2_hasRun_15 (fun z_2 hrz_2 hlz_2 hez_2 => ?_)
    unfold zr at hrz_2
    refine z_fgt E 23 ⟨by omega, by omega⟩ dX2_hasRun_16 (by decide) (fun h16_3 => ?_) (fun h16_3 => ?_)
    · refine z_iconst E dX2_hasRun_23 ?_
      exact z_retz E X hQ (by omega) (⟨⟨0, rfl, by omega⟩, X.1⟩) dX2_hasRun_24
    · refine z_iconst E dX2_hasRun_19 ?_
      refine lv_goto (tgt := 24) E.1 E.2.1 dX2_hasRun_20 (by decide) ?_
      exact z_retz E X hQ (by omega) (⟨⟨1, rfl, by omega⟩, X.1⟩) dX2_hasRun_24

abbrev rX3_forgetTimes : Room := { frames := 1, cells := 0, slots := 0, locals := 23 }
set_option maxHeartbeats 4000000 in
set_option maxRecDepth 100000 in
theorem x_forgetT (l : Launch) (D : va_G) (cA : Nat → ClassId) (B0 : Nat) (M : zL) (a : Nat → Nat → Nat) (G : zG) (S : zS) (q : Nat) (hi : (q : Int) < S 8 0) : zM l yX3_forgetTimes wsX3_forgetTimes rX3_forgetTimes [.ref (a 12 q)] D cA B0 (zW D B0 (zj (layC cA a G S) M)) (fun v H => v = none ∧ zW D B0 (zj (layC cA a (ug G 13 q (fun _ => -1)) S) M) H) := by
  refine z_met (cc := cX3_forgetTimes) (maxL := 1) (ret := none) (by decide) rfl (Nat.le_of_ble_eq_true rfl) ?_
  intro p e s m args below meth c ls Q hQ E hP hB hS hl
  have hl : lv_has ls 1 [(0, .ref (a 12 q))] := hl
  have iX3 : ∀ w ∈ u_ws RX3 TX3 6, w ∈ wsX3_forgetTimes := by decide +kernel
  have X : zX D B0 (zj (layC cA a G S) M) s.heap s.heap [] := ⟨hP, hS⟩
  refine lv_aload_n E.1 E.2.1 dX3_forgetTimes_0 rfl (lv_at hl 0 rfl) ?_
  refine z_get E X (lC_12 M cA a G S q (by omega)) rfl iX3 5 (by decide) (by decide +kernel) (v := .ref (a 13 q)) rfl dX3_forgetTimes_1 ?_
  refine z_iconst E dX3_forgetTimes_4 ?_
  refine z_callJ (As := [.ref (a 13 q), .int (i32 (-1))]) (rest := []) (n := 2) E X (J_fill l D cA B0 (zj (layC cA a G S) M) 13 q (a 13 q) 64 (G 13 q) (-1) (lC_13 M cA a G S q (by omega)) (by decide)) gX3_forgetTimes_J7_fill_53178 rfl (by decide +kernel) ⟨by decide, by decide⟩ rfl hl.1 rfl (Nat.le_of_ble_eq_true rfl) dX3_forgetTimes_5 ⟨by decide, by decide⟩ X.1 0 0 ⟨rfl, rfl⟩ (fun v H locs hv hS_1 => ?_)
  obtain ⟨rfl, hw⟩ := hv
  have X := cw_fetimes hi ⟨hw, hS_1⟩
  exact z_retv E X hQ (⟨rfl, X.1⟩) dX3_forgetTimes_8

theorem mst_cut {S : zS} {x y c : Nat} : ∀ {n : Nat}, c ≤ n → mst S x y (min (n + 1) c) = mst S x y (min n c) := fun h => by rw [Nat.min_eq_right (by omega), Nat.min_eq_right h]
theorem dly_cut {S : zS} {x y c : Nat} {z : Int} : ∀ {n : Nat}, c ≤ n → dly S x y z (min (n + 1) c) = dly S x y z (min n c) := fun h => by rw [Nat.min_eq_right (by omega), Nat.min_eq_right h]
theorem CG_wait {T : zS} {G : zG} {n : Nat} {v : Int} (hG : CG T G) (hv : -5000 ≤ v ∧ v ≤ 5000) : CG (zs T 18 n v) (z3 G 10 n 0 v) := by
  obtain ⟨g1, g2, g3, g4, g5, g6, g7⟩ := hG
  refine ⟨g1, g2, g3, g4, g5, fun h i hi h7 => ?_, fun i => ?_⟩
  · by_cases e : i = n
    · subst e
      rw [z3_at, zs_eq, zg_eq]
    · rw [z3_no e, zs_eq, zg_ne e]
      exact g6 h i hi h7
  · by_cases e : i = n
    · subst e
      rw [z3_at]
      exact hv
    · rw [z3_no e]
      exact g7 i
theorem CG_wait0 {T : zS} {G : zG} {n : Nat} {v : Int} (hG : CG T G) (h0 : ¬ T 7 n = 0) : CG (zs T 18 n v) G := by
  obtain ⟨g1, g2, g3, g4, g5, g6, g7⟩ := hG
  refine ⟨g1, g2, g3, g4, g5, fun h i hi h7 => ?_, g7⟩
  have e : i ≠ n := fun e => h0 (by rw [← e]; exact h7)
  rw [zs_eq, zg_ne e]
  exact g6 h i hi h7
theorem CG_on {T : zS} {G : zG} (hG : CG T G) (h : ∀ i : Nat, (i : Int) < T 5 0 → T 7 i = 0 → G 10 i 0 = T 18 i) : CG (zs T 17 0 1) G := by
  obtain ⟨g1, g2, g3, g4, g5, g6, g7⟩ := hG
  exact ⟨g1, g2, g3, g4, g5, fun _ => h, g7⟩
theorem dly_S {S : zS} {x y n : Nat} {z : Int} : dly S x y z (n + 1) = zs (dly S x y z n) 18 n (z - TM S n x y) := rfl
theorem fow_hit {S T : zS} {G G1 : zG} {n : Nat} {v : Int} (hW : ∀ i : Nat, i < n → (i : Int) < S 5 0 → S 7 i = 0 → G 10 i 0 = T 18 i) (hk : G1 10 = G 10) : ∀ i : Nat, i < n + 1 → (i : Int) < S 5 0 → S 7 i = 0 → z3 G1 10 n 0 v 10 i 0 = zs T 18 n v 18 i := by
  intro i hi h5 h7
  by_cases e : i = n
  · subst e
    rw [z3_at, zs_eq, zg_eq]
  · rw [z3_no e, zs_eq, zg_ne e, hk]
    exact hW i (by omega) h5 h7
theorem fow_lost {S T : zS} {G : zG} {n : Nat} {v : Int} (hW : ∀ i : Nat, i < n → (i : Int) < S 5 0 → S 7 i = 0 → G 10 i 0 = T 18 i) (h0 : ¬ S 7 n = 0) : ∀ i : Nat, i < n + 1 → (i : Int) < S 5 0 → S 7 i = 0 → G 10 i 0 = zs T 18 n v 18 i := by
  intro i hi h5 h7
  have e : i ≠ n := fun e => h0 (by rw [← e]; exact h7)
  rw [zs_eq, zg_ne e]
  exact hW i (by omega) h5 h7
theorem fow_none {S T : zS} {G : zG} {n : Nat} (hW : ∀ i : Nat, i < n → (i : Int) < S 5 0 → S 7 i = 0 → G 10 i 0 = T 18 i) (hc : S 5 0 ≤ (n : Int)) : ∀ i : Nat, i < n + 1 → (i : Int) < S 5 0 → S 7 i = 0 → G 10 i 0 = T 18 i := fun i _ h5 h7 => hW i (by omega) h5 h7
abbrev rX5_focus : Room := { frames := 3, cells := 0, slots := 0, locals := 76 }
set_option maxHeartbeats 4000000 in
set_option maxRecDepth 100000 in
theorem X_focus (l : Launch) (D : va_G) (cA : Nat → ClassId) (B0 : Nat) (M : zL) (a : Nat → Nat → Nat) (G : zG) (S : zS) (hI : SI S) (hG : CG S G) (x1 x2 : Int) (hx1 : zr x1) (hx2 : zr x2) : zM l yX5_focus wsX5_focus rX5_focus [.ref (a 0 0), .int (i32 x1), .int (i32 x2)] D cA B0 (zW D B0 (zj (layC cA a G S) M)) (fun v H => v = some (.int (i32 (fFocus S x1 x2).1)) ∧ ∃ (a2 : Nat → Nat → Nat) (G2 : zG), a2 0 0 = a 0 0 ∧ CG (fFocus S x1 x2).2 G2 ∧ zW D B0 (zj (layC cA a2 G2 (fFocus S x1 x2).2) M) H) := by
  refine z_met (cc := cX5_focus) (maxL := 8) (ret := (some .int)) (by decide) rfl (Nat.le_of_ble_eq_true rfl) ?_
  intro p e s m args below meth c ls Q hQ E hP hB hS hl
  have hl : lv_has ls 8 [(0, .ref (a 0 0)), (1, .int (i32 x1)), (2, .int (i32 x2))] := hl
  have iX0 : ∀ w ∈ u_ws RX0 TX0 4, w ∈ wsX5_focus := by decide +kernel
  have iX5 : ∀ w ∈ u_ws RX5 TX5 11, w ∈ wsX5_focus := by decide +kernel
  have X : zX D B0 (zj (layC cA a G S) M) s.heap s.heap [] := ⟨hP, hS⟩
  have hI0 := hI.1
  unfold SI0 at hI0
  obtain ⟨b1, b2, b3, b4, b5, b8, b17, b19, b7⟩ := hI0
  unfold zr at hx1 hx2
  refine lv_aload_n E.1 E.2.1 dX5_focus_0 rfl (lv_at hl 0 rfl) ?_
  refine z_get E X (lC_0 M cA a G S) rfl iX5 0 (by decide) (by decide +kernel) (v := .ref (a 1 0)) rfl dX5_focus_1 ?_
  refine lv_iload_n E.1 E.2.1 dX5_focus_4 rfl (lv_at hl 1 rfl) ?_
  refine lv_iload_n E.1 E.2.1 dX5_focus_5 rfl (lv_at hl 2 rfl) ?_
  replace X := cl_in X
  refine z_callV (As := [.int (i32 x1), .int (i32 x2)]) (rest := []) (n := 2) E X (lL_0 _ cA (hL a) (TL S G)) rfl (L_holds l D cA B0 (zj (layC cA a G S) M) (hL a) (TL S G) ⟨b1, b2⟩ x1 x2 ⟨by omega, by omega⟩ ⟨by omega, by omega⟩) gX5_focus_X1_holds rfl (by decide +kernel) ⟨by decide, by decide⟩ rfl hl.1 rfl (Nat.le_of_ble_eq_true rfl) dX5_focus_6 ⟨by decide, by decide⟩ X.1 0 0 ⟨rfl, rfl⟩ (fun v H locs hv hS_1 => ?_)
  obtain ⟨⟨z_2, rfl, ez_2⟩, hw⟩ := hv
  replace X : zX D B0 (zj (layC cA a G S) M) s.heap H locs := cl_un ⟨hw, hS_1⟩
  replace ez_2 : z_2 = 1 ∧ (0 ≤ x1 ∧ x1 ≤ 50 ∧ S 1 0 ≤ x2 ∧ x2 ≤ S 1 0 + S 2 0) ∨ z_2 = 0 ∧ ¬ (0 ≤ x1 ∧ x1 ≤ 50 ∧ S 1 0 ≤ x2 ∧ x2 ≤ S 1 0 + S 2 0) := ez_2
  refine z_fne E 15 ⟨by omega, by omega⟩ dX5_focus_9 (by decide) (fun h9_3 => ?_) (fun h9_3 => ?_)
  · obtain ⟨x, rfl⟩ : ∃ x : Nat, x1 = (x : Int) := ⟨x1.toNat, by omega⟩
    obtain ⟨y, rfl⟩ : ∃ y : Nat, x2 = (y : Int) := ⟨x2.toNat, by omega⟩
    refine lv_aload_n E.1 E.2.1 dX5_focus_15 rfl (lv_at hl 0 rfl) ?_
    refine z_callV (As := []) (rest := []) (n := 0) E X (lC_0 M cA a G S) rfl (x_countWorking l D cA B0 M a G S hI.1) gX5_focus_X5_countWorking rfl (by decide +kernel) ⟨by decide, by decide⟩ rfl hl.1 rfl (Nat.le_of_ble_eq_true rfl) dX5_focus_16 ⟨by decide, by decide⟩ X.1 0 0 ⟨rfl, rfl⟩ (fun v H locs hv hS_4 => ?_)
    obtain ⟨rfl, hw⟩ := hv
    replace X : zX D B0 (zj (layC cA a G S) M) s.heap H locs := ⟨hw, hS_4⟩
    have f_5 := WK_rng (S := S) hI.1
    refine z_iconst E dX5_focus_19 ?_
    refine z_cge E 26 ⟨by omega, by omega⟩ ⟨by omega, by omega⟩ dX5_focus_20 (by decide) (fun h20_6 => ?_) (fun h20_6 => ?_)
    · refine z_iconst E dX5_focus_26 ?_
      refine z_top (mst S x y (min 0 (S 5 0).toNat)) (by rw [Nat.zero_min]; rfl) ?_
      refine lv_istore_n (lv' := [(3, .int (i32 (mst S x y (min 0 (S 5 0).toNat)))), (0, .ref (a 0 0)), (1, .int (i32 (x : Int))), (2, .int (i32 (y : Int)))]) E.1 E.2.1 dX5_focus_27 rfl hl (by decide) rfl (fun ls hl => ?_)
      refine lv_aload_n E.1 E.2.1 dX5_focus_28 rfl (lv_at hl 1 rfl) ?_
      refine z_get E X (lC_0 M cA a G S) rfl iX5 1 (by decide) (by decide +kernel) (v := .ref (a 4 0)) rfl dX5_focus_29 ?_
      refine lv_astore (lv' := [(4, .ref (a 4 0)), (3, .int (i32 (mst S x y (min 0 (S 5 0).toNat)))), (0, .ref (a 0 0)), (1, .int (i32 (x : Int))), (2, .int (i32 (y : Int)))]) E.1 E.2.1 dX5_focus_32 hl (by decide) rfl (fun ls hl => ?_)
      refine lv_aload E.1 E.2.1 dX5_focus_34 (lv_at hl 0 rfl) ?_
      refine z_alen (z := 8) E X 2 (lC_4 M cA a G S) rfl (by omega) dX5_focus_36 ?_
      refine lv_istore (lv' := [(5, .int (i32 8)), (4, .ref (a 4 0)), (3, .int (i32 (mst S x y (min 0 (S 5 0).toNat)))), (0, .ref (a 0 0)), (1, .int (i32 (x : Int))), (2, .int (i32 (y : Int)))]) E.1 E.2.1 dX5_focus_37 hl (by decide) rfl (fun ls hl => ?_)
      refine z_iconst E dX5_focus_39 ?_
      refine z_top (0 : Int) (rfl) ?_
      refine lv_istore (lv' := [(6, .int (i32 (0 : Int))), (5, .int (i32 8)), (4, .ref (a 4 0)), (3, .int (i32 (mst S x y (min 0 (S 5 0).toNat)))), (0, .ref (a 0 0)), (1, .int (i32 (x : Int))), (2, .int (i32 (y : Int)))]) E.1 E.2.1 dX5_focus_40 hl (by decide) rfl (fun ls hl => ?_)
      have key42 : ∀ (N : Nat) (n : Nat) (G : zG) (H : Heap) (locs : List Loc) (ls : Array Slot), (8 - n) < N → (n ≤ 8) → (CG S G) → zX D B0 (zj (layC cA a G S) M) s.heap H locs → lv_has ls 8 [(0, .ref (a 0 0)), (1, .int (i32 (x : Int))), (2, .int (i32 (y : Int))), (3, .int (i32 (mst S x y (min n (S 5 0).toNat)))), (4, .ref (a 4 0)), (5, .int (i32 8)), (6, .int (i32 (n : Int)))] → W p l e rX5_focus s m args below meth c H locs 0 0 Q (F0 m 42 ls []) := by
        intro N
        induction N with
        | zero => intros; omega
        | succ N ih42 =>
          intro n G H locs ls hN hn hG X hl
          refine lv_iload E.1 E.2.1 dX5_focus_42 (lv_at hl 6 rfl) ?_
          refine lv_iload E.1 E.2.1 dX5_focus_44 (lv_at hl 5 rfl) ?_
          refine z_cge E 94 ⟨by omega, by omega⟩ ⟨by omega, by omega⟩ dX5_focus_46 (by decide) (fun h46_7 => ?_) (fun h46_7 => ?_)
          · have hmr := mst_rng (S := S) (x := x) (y := y) hI (by omega) (by omega) (S 5 0).toNat (by omega)
            obtain ⟨mz, hmz⟩ : ∃ mz : Int, mz = mst S x y (S 5 0).toNat := ⟨_, rfl⟩
            rw [← hmz] at hmr
            have em9 : mst S x y (min n (S 5 0).toNat) = mz := by rw [hmz, Nat.min_eq_right (by omega)]
            rw [em9] at hl
            refine lv_aload_n E.1 E.2.1 dX5_focus_94 rfl (lv_at hl 0 rfl) ?_
            refine z_get E X (lC_0 M cA a G S) rfl iX5 1 (by decide) (by decide +kernel) (v := .ref (a 4 0)) rfl dX5_focus_95 ?_
            refine lv_astore (lv' := [(4, .ref (a 4 0)), (0, .ref (a 0 0)), (1, .int (i32 (x : Int))), (2, .int (i32 (y : Int))), (3, .int (i32 mz)), (5, .int (i32 8)), (6, .int (i32 (n : Int)))]) E.1 E.2.1 dX5_focus_98 hl (by decide) rfl (fun ls hl => ?_)
            refine lv_aload E.1 E.2.1 dX5_focus_100 (lv_at hl 0 rfl) ?_
            refine z_alen (z := 8) E X 2 (lC_4 M cA a G S) rfl (by omega) dX5_focus_102 ?_
            refine lv_istore (lv' := [(5, .int (i32 8)), (4, .ref (a 4 0)), (0, .ref (a 0 0)), (1, .int (i32 (x : Int))), (2, .int (i32 (y : Int))), (3, .int (i32 mz)), (6, .int (i32 (n : Int)))]) E.1 E.2.1 dX5_focus_103 hl (by decide) rfl (fun ls hl => ?_)
            refine z_iconst E dX5_focus_105 ?_
            refine z_top (0 : Int) (rfl) ?_
            refine lv_istore (lv' := [(6, .int (i32 (0 : Int))), (5, .int (i32 8)), (4, .ref (a 4 0)), (0, .ref (a 0 0)), (1, .int (i32 (x : Int))), (2, .int (i32 (y : Int))), (3, .int (i32 mz))]) E.1 E.2.1 dX5_focus_106 hl (by decide) rfl (fun ls hl => ?_)
            have key108 : ∀ (N : Nat) (n : Nat) (T : zS) (G : zG) (H : Heap) (locs : List Loc) (ls : Array Slot), (8 - n) < N → (n ≤ 8) → (T = dly S x y mz (min n (S 5 0).toNat)) → (CG T G) → (∀ i : Nat, i < n → (i : Int) < S 5 0 → S 7 i = 0 → G 10 i 0 = T 18 i) → zX D B0 (zj (layC cA a G T) M) s.heap H locs → lv_has ls 8 [(0, .ref (a 0 0)), (1, .int (i32 (x : Int))), (2, .int (i32 (y : Int))), (3, .int (i32 mz)), (4, .ref (a 4 0)), (5, .int (i32 8)), (6, .int (i32 (n : Int)))] → W p l e rX5_focus s m args below meth c H locs 0 0 Q (F0 m 108 ls []) := by
              intro N
              induction N with
              | zero => intros; omega
              | succ N ih108 =>
                intro n T G H locs ls hN hn hT hG hW X hl
                refine lv_iload E.1 E.2.1 dX5_focus_108 (lv_at hl 6 rfl) ?_
                have eT : ∀ k : Nat, k ≠ 18 → T k = S k := fun k hk => by rw [hT]; exact dly_k hk _
                have d1 : T 1 0 = S 1 0 := by rw [eT 1 (by decide)]
                have d2 : T 2 0 = S 2 0 := by rw [eT 2 (by decide)]
                have d5 : T 5 0 = S 5 0 := by rw [eT 5 (by decide)]
                refine lv_iload E.1 E.2.1 dX5_focus_110 (lv_at hl 5 rfl) ?_
                refine z_cge E 162 ⟨by omega, by omega⟩ ⟨by omega, by omega⟩ dX5_focus_112 (by decide) (fun h112_8 => ?_) (fun h112_8 => ?_)
                · have hT9 : T = dly S x y mz (S 5 0).toNat := by rw [hT, Nat.min_eq_right (by omega)]
                  have hW9 : ∀ i : Nat, (i : Int) < T 5 0 → T 7 i = 0 → G 10 i 0 = T 18 i := fun i hi h7 => hW i (by omega) (by omega) (by rw [eT 7 (by decide)] at h7; exact h7)
                  refine lv_aload_n E.1 E.2.1 dX5_focus_162 rfl (lv_at hl 0 rfl) ?_
                  refine z_iconst E dX5_focus_163 ?_
                  refine z_put E X (lC_0 M cA a G T) rfl iX5 tyX5 tyX5_ok nmX5 10 (by decide) (by decide +kernel) rfl (z_nb (by omega)).1 (z_nb (by omega)).2 (Nat.le_of_ble_eq_true rfl) dX5_focus_164 (fun H locs X => ?_)
                  have X := cw_focused X
                  refine lv_iload_n E.1 E.2.1 dX5_focus_167 rfl (lv_at hl 3 rfl) ?_
                  have ef : fFocus S (x : Int) (y : Int) = (mz, zs T 17 0 1) := by
                    unfold fFocus
                    simp only [Int.toNat_natCast]
                    rw [if_neg (by omega), if_neg (by omega), ← hmz, hT9]
                  exact z_ret E X hQ (⟨(congrArg (fun w => some (Value.int (i32 w.1))) ef).symm, a, G, rfl, by rw [ef]; exact CG_on hG hW9, by rw [ef]; exact X.1⟩) dX5_focus_168
                · have d7 : T 7 n = S 7 n := by rw [eT 7 (by decide)]
                  have l1 := b7 n
                  have hIT : SI T := by rw [hT]; exact SI_dly hI (by omega) (by omega) (by omega) (by omega)
                  refine lv_aload E.1 E.2.1 dX5_focus_115 (lv_at hl 4 rfl) ?_
                  refine lv_iload E.1 E.2.1 dX5_focus_117 (lv_at hl 6 rfl) ?_
                  by_cases hp_9 : ((n : Nat) : Int) < T 5 0
                  · refine z_aldS (C := "EchoRow$Element") E X 2 (lC_4 M cA a G T) rfl n (by omega) (by omega) (by decide) (if_pos hp_9) dX5_focus_119 ?_
                    refine lv_astore (lv' := [(7, .ref (a 10 n)), (0, .ref (a 0 0)), (1, .int (i32 (x : Int))), (2, .int (i32 (y : Int))), (3, .int (i32 mz)), (4, .ref (a 4 0)), (5, .int (i32 8)), (6, .int (i32 (n : Int)))]) E.1 E.2.1 dX5_focus_120 hl (by decide) rfl (fun ls hl => ?_)
                    refine lv_aload E.1 E.2.1 dX5_focus_122 (lv_at hl 0 rfl) ?_
                    refine lv_ifnull E.1 E.2.1 dX5_focus_124 ?_
                    refine lv_aload E.1 E.2.1 dX5_focus_127 (lv_at hl 0 rfl) ?_
                    refine z_get E X (lC_10 M cA a G T n (by omega)) rfl iX0 2 (by decide) (by decide +kernel) (v := .int (i32 (1 - T 7 n))) rfl dX5_focus_129 ?_
                    refine z_feq E 156 ⟨by omega, by omega⟩ dX5_focus_132 (by decide) (fun h132_10 => ?_) (fun h132_10 => ?_)
                    · have htm := TM_rng (e := n) (x := x) (y := y) hI.1 hI.2.1 (by omega) (by omega) (by omega)
                      have X : zX D B0 (zj (layC cA a G (zs T 18 n (mz - TM S n x y))) M) s.heap H locs := X
                      refine z_iinc (lv' := [(6, .int (i32 ((n + 1 : Nat) : Int))), (7, .ref (a 10 n)), (0, .ref (a 0 0)), (1, .int (i32 (x : Int))), (2, .int (i32 (y : Int))), (3, .int (i32 mz)), (4, .ref (a 4 0)), (5, .int (i32 8))]) E dX5_focus_156 hl (k := 7) rfl (by decide) rfl (fun ls hl => ?_)
                      refine lv_goto (tgt := 108) E.1 E.2.1 dX5_focus_159 (by decide) ?_
                      exact ih108 (n + 1) (zs T 18 n (mz - TM S n x y)) G _ _ _ (by omega) (by omega) (by rw [hT, Nat.min_eq_left (by omega : n + 1 ≤ (S 5 0).toNat), Nat.min_eq_left (by omega : n ≤ (S 5 0).toNat), dly_S]) (CG_wait0 hG (by omega)) (fow_lost hW (by omega)) X (lv_sub hl [2, 3, 4, 5, 6, 7, 0] rfl)
                    · refine lv_aload E.1 E.2.1 dX5_focus_135 (lv_at hl 0 rfl) ?_
                      refine lv_iload_n E.1 E.2.1 dX5_focus_137 rfl (lv_at hl 4 rfl) ?_
                      refine lv_aload_n E.1 E.2.1 dX5_focus_138 rfl (lv_at hl 1 rfl) ?_
                      refine z_get E X (lC_0 M cA a G T) rfl iX5 0 (by decide) (by decide +kernel) (v := .ref (a 1 0)) rfl dX5_focus_139 ?_
                      refine lv_aload E.1 E.2.1 dX5_focus_142 (lv_at hl 0 rfl) ?_
                      refine z_get E X (lC_10 M cA a G T n (by omega)) rfl iX0 1 (by decide) (by decide +kernel) (v := .int (i32 (T 6 n))) rfl dX5_focus_144 ?_
                      refine lv_iload_n E.1 E.2.1 dX5_focus_147 rfl (lv_at hl 2 rfl) ?_
                      refine lv_iload_n E.1 E.2.1 dX5_focus_148 rfl (lv_at hl 3 rfl) ?_
                      replace X := cl_in X
                      have hLi := LI_of hIT hG
                      have h6_11 := hIT.2.1 n (by omega)
                      refine z_callV (As := [.int (i32 (T 6 n)), .int (i32 (x : Int)), .int (i32 (y : Int))]) (rest := [.int (i32 mz), .ref (a 10 n)]) (n := 3) E X (lL_0 _ cA (hL a) (TL T G)) rfl (L_timeTo l D cA B0 (zj (layC cA a G T) M) (hL a) (TL T G) (T 3 0) (SI_u hIT) hLi (T 6 n) (x : Int) (y : Int) h6_11 (by omega) (show T 1 0 ≤ (y : Int) ∧ (y : Int) ≤ T 1 0 + T 2 0 by omega)) gX5_focus_X1_timeTo rfl (by decide +kernel) ⟨by decide, by decide⟩ rfl hl.1 rfl (Nat.le_of_ble_eq_true rfl) dX5_focus_149 ⟨by decide, by decide⟩ X.1 0 0 ⟨rfl, rfl⟩ (fun v H locs hv hS_12 => ?_)
                      obtain ⟨rfl, T_13, hLIT_13, hsT_13, hw⟩ := hv
                      obtain ⟨G_14, hG, hgkG_14, X⟩ := cl_back hG ⟨hw, hS_12⟩ hLIT_13 hsT_13
                      refine z_top (TM T n x y) (TM_fb (S := T) (q := n) (x := x) (y := y) h6_11.1).1.symm ?_
                      have f_15 := TM_rng (S := T) (e := n) (x := x) (y := y) hIT.1 hIT.2.1 (by omega) (by omega) (by omega)
                      have htm := TM_rng (e := n) (x := x) (y := y) hI.1 hI.2.1 (by omega) (by omega) (by omega)
                      refine z_top (TM S n x y) ((TM_cong (by rw [eT 1 (by decide)]) (by rw [eT 3 (by decide)]) (by rw [eT 4 (by decide)]) (by rw [eT 6 (by decide)])).1) ?_
                      refine z_isub E dX5_focus_152 ?_
                      refine z_put E X (lC_10 M cA a G_14 T n (by omega)) rfl iX0 tyX0 tyX0_ok nmX0 3 (by decide) (by decide +kernel) rfl rfl rfl (Nat.le_of_ble_eq_true rfl) dX5_focus_153 (fun H locs X => ?_)
                      have X := cw_wait (by omega) X
                      have X : zX D B0 (zj (layC cA a (z3 G_14 10 n 0 (mz - (TM S n x y))) (zs T 18 n (mz - TM S n x y))) M) s.heap H locs := X
                      refine z_iinc (lv' := [(6, .int (i32 ((n + 1 : Nat) : Int))), (7, .ref (a 10 n)), (0, .ref (a 0 0)), (1, .int (i32 (x : Int))), (2, .int (i32 (y : Int))), (3, .int (i32 mz)), (4, .ref (a 4 0)), (5, .int (i32 8))]) E dX5_focus_156 hl (k := 7) rfl (by decide) rfl (fun ls hl => ?_)
                      refine lv_goto (tgt := 108) E.1 E.2.1 dX5_focus_159 (by decide) ?_
                      exact ih108 (n + 1) (zs T 18 n (mz - TM S n x y)) (z3 G_14 10 n 0 (mz - (TM S n x y))) _ _ _ (by omega) (by omega) (by rw [hT, Nat.min_eq_left (by omega : n + 1 ≤ (S 5 0).toNat), Nat.min_eq_left (by omega : n ≤ (S 5 0).toNat), dly_S]) (CG_wait hG (by omega)) (fow_hit hW (hgkG_14 10 (by decide) (by decide) (by decide) (by decide))) X (lv_sub hl [2, 3, 4, 5, 6, 7, 0] rfl)
                  · refine z_aldN (C := "EchoRow$Element") E X 2 (lC_4 M cA a G T) rfl n (by omega) (by omega) (by decide) (if_neg hp_9) dX5_focus_119 ?_
                    refine lv_astoreN (lv' := [(7, .null), (0, .ref (a 0 0)), (1, .int (i32 (x : Int))), (2, .int (i32 (y : Int))), (3, .int (i32 mz)), (4, .ref (a 4 0)), (5, .int (i32 8)), (6, .int (i32 (n : Int)))]) E.1 E.2.1 dX5_focus_120 hl (by decide) rfl (fun ls hl => ?_)
                    refine lv_aloadN E.1 E.2.1 dX5_focus_122 (lv_at hl 0 rfl) ?_
                    refine lv_ifnullN (tgt := 156) E.1 E.2.1 dX5_focus_124 (by decide) ?_
                    refine z_iinc (lv' := [(6, .int (i32 ((n + 1 : Nat) : Int))), (7, .null), (0, .ref (a 0 0)), (1, .int (i32 (x : Int))), (2, .int (i32 (y : Int))), (3, .int (i32 mz)), (4, .ref (a 4 0)), (5, .int (i32 8))]) E dX5_focus_156 hl (k := 7) rfl (by decide) rfl (fun ls hl => ?_)
                    refine lv_goto (tgt := 108) E.1 E.2.1 dX5_focus_159 (by decide) ?_
                    exact ih108 (n + 1) T G _ _ _ (by omega) (by omega) (hT.trans (dly_cut (by omega)).symm) hG (fow_none hW (by omega)) X (lv_sub hl [2, 3, 4, 5, 6, 7, 0] rfl)
            exact key108 ((8 - 0) + 1) 0 S G _ _ _ (by omega) (by omega) (by rw [Nat.zero_min]; rfl) hG (fun i hi => absurd hi (Nat.not_lt_zero i)) X (lv_sub hl [3, 4, 5, 6, 2, 1, 0] rfl)
          · have hm9 := mst_rng (S := S) (x := x) (y := y) hI (by omega) (by omega) (min n (S 5 0).toNat) (by omega)
            have l1 := b7 n
            refine lv_aload E.1 E.2.1 dX5_focus_49 (lv_at hl 4 rfl) ?_
            refine lv_iload E.1 E.2.1 dX5_focus_51 (lv_at hl 6 rfl) ?_
            by_cases hp_16 : ((n : Nat) : Int) < S 5 0
            · refine z_aldS (C := "EchoRow$Element") E X 2 (lC_4 M cA a G S) rfl n (by omega) (by omega) (by decide) (if_pos hp_16) dX5_focus_53 ?_
              refine lv_astore (lv' := [(7, .ref (a 10 n)), (0, .ref (a 0 0)), (1, .int (i32 (x : Int))), (2, .int (i32 (y : Int))), (3, .int (i32 (mst S x y (min n (S 5 0).toNat)))), (4, .ref (a 4 0)), (5, .int (i32 8)), (6, .int (i32 (n : Int)))]) E.1 E.2.1 dX5_focus_54 hl (by decide) rfl (fun ls hl => ?_)
              refine lv_aload E.1 E.2.1 dX5_focus_56 (lv_at hl 0 rfl) ?_
              refine lv_ifnull E.1 E.2.1 dX5_focus_58 ?_
              refine lv_aload E.1 E.2.1 dX5_focus_61 (lv_at hl 0 rfl) ?_
              refine z_get E X (lC_10 M cA a G S n (by omega)) rfl iX0 2 (by decide) (by decide +kernel) (v := .int (i32 (1 - S 7 n))) rfl dX5_focus_63 ?_
              refine z_feq E 88 ⟨by omega, by omega⟩ dX5_focus_66 (by decide) (fun h66_17 => ?_) (fun h66_17 => ?_)
              · have em : mst S x y (min (n + 1) (S 5 0).toNat) = mst S x y (min n (S 5 0).toNat) := by
                  rw [Nat.min_eq_left (by omega : n + 1 ≤ (S 5 0).toNat), Nat.min_eq_left (by omega : n ≤ (S 5 0).toNat), mst_S, if_neg (by omega)]
                have hl : lv_has ls 8 [(7, .ref (a 10 n)), (0, .ref (a 0 0)), (1, .int (i32 (x : Int))), (2, .int (i32 (y : Int))), (3, .int (i32 (mst S x y (min (n + 1) (S 5 0).toNat)))), (4, .ref (a 4 0)), (5, .int (i32 8)), (6, .int (i32 (n : Int)))] := by rw [em]; exact hl
                refine z_iinc (lv' := [(6, .int (i32 ((n + 1 : Nat) : Int))), (7, .ref (a 10 n)), (0, .ref (a 0 0)), (1, .int (i32 (x : Int))), (2, .int (i32 (y : Int))), (3, .int (i32 (mst S x y (min (n + 1) (S 5 0).toNat)))), (4, .ref (a 4 0)), (5, .int (i32 8))]) E dX5_focus_88 hl (k := 7) rfl (by decide) rfl (fun ls hl => ?_)
                refine lv_goto (tgt := 42) E.1 E.2.1 dX5_focus_91 (by decide) ?_
                exact ih42 (n + 1) G _ _ _ (by omega) (by omega) hG X (lv_sub hl [2, 3, 4, 5, 6, 7, 0] rfl)
              · refine lv_iload_n E.1 E.2.1 dX5_focus_69 rfl (lv_at hl 4 rfl) ?_
                refine lv_aload_n E.1 E.2.1 dX5_focus_70 rfl (lv_at hl 1 rfl) ?_
                refine z_get E X (lC_0 M cA a G S) rfl iX5 0 (by decide) (by decide +kernel) (v := .ref (a 1 0)) rfl dX5_focus_71 ?_
                refine lv_aload E.1 E.2.1 dX5_focus_74 (lv_at hl 0 rfl) ?_
                refine z_get E X (lC_10 M cA a G S n (by omega)) rfl iX0 1 (by decide) (by decide +kernel) (v := .int (i32 (S 6 n))) rfl dX5_focus_76 ?_
                refine lv_iload_n E.1 E.2.1 dX5_focus_79 rfl (lv_at hl 2 rfl) ?_
                refine lv_iload_n E.1 E.2.1 dX5_focus_80 rfl (lv_at hl 3 rfl) ?_
                replace X := cl_in X
                have hLi := LI_of hI hG
                have h6_18 := hI.2.1 n (by omega)
                refine z_callV (As := [.int (i32 (S 6 n)), .int (i32 (x : Int)), .int (i32 (y : Int))]) (rest := [.int (i32 (mst S x y (min n (S 5 0).toNat)))]) (n := 3) E X (lL_0 _ cA (hL a) (TL S G)) rfl (L_timeTo l D cA B0 (zj (layC cA a G S) M) (hL a) (TL S G) (S 3 0) (SI_u hI) hLi (S 6 n) (x : Int) (y : Int) h6_18 (by omega) (show S 1 0 ≤ (y : Int) ∧ (y : Int) ≤ S 1 0 + S 2 0 by omega)) gX5_focus_X1_timeTo rfl (by decide +kernel) ⟨by decide, by decide⟩ rfl hl.1 rfl (Nat.le_of_ble_eq_true rfl) dX5_focus_81 ⟨by decide, by decide⟩ X.1 0 0 ⟨rfl, rfl⟩ (fun v H locs hv hS_19 => ?_)
                obtain ⟨rfl, T_20, hLIT_20, hsT_20, hw⟩ := hv
                obtain ⟨G_21, hG, hgkG_21, X⟩ := cl_back hG ⟨hw, hS_19⟩ hLIT_20 hsT_20
                refine z_top (TM S n x y) (TM_fb (S := S) (q := n) (x := x) (y := y) h6_18.1).1.symm ?_
                have f_22 := TM_rng (S := S) (e := n) (x := x) (y := y) hI.1 hI.2.1 (by omega) (by omega) (by omega)
                refine z_mmax E ⟨by omega, by omega⟩ ⟨by omega, by omega⟩ (by decide +kernel) (by decide +kernel) (by decide +kernel) (by decide +kernel) hl.1 (by decide) (Nat.le_of_ble_eq_true rfl) ⟨by decide, by decide⟩ dX5_focus_84 ?_
                refine lv_istore_n (lv' := [(3, .int (i32 (zmax (mst S x y (min n (S 5 0).toNat)) (TM S n x y)))), (7, .ref (a 10 n)), (0, .ref (a 0 0)), (1, .int (i32 (x : Int))), (2, .int (i32 (y : Int))), (4, .ref (a 4 0)), (5, .int (i32 8)), (6, .int (i32 (n : Int)))]) E.1 E.2.1 dX5_focus_87 rfl hl (by decide) rfl (fun ls hl => ?_)
                have em : mst S x y (min (n + 1) (S 5 0).toNat) = zmax (mst S x y (min n (S 5 0).toNat)) (TM S n x y) := by
                  rw [Nat.min_eq_left (by omega : n + 1 ≤ (S 5 0).toNat), Nat.min_eq_left (by omega : n ≤ (S 5 0).toNat), mst_S]
                  unfold zmax
                  split <;> split <;> first | rfl | (exfalso; omega)
                have hl : lv_has ls 8 [(3, .int (i32 (mst S x y (min (n + 1) (S 5 0).toNat)))), (7, .ref (a 10 n)), (0, .ref (a 0 0)), (1, .int (i32 (x : Int))), (2, .int (i32 (y : Int))), (4, .ref (a 4 0)), (5, .int (i32 8)), (6, .int (i32 (n : Int)))] := by rw [em]; exact hl
                refine z_iinc (lv' := [(6, .int (i32 ((n + 1 : Nat) : Int))), (3, .int (i32 (mst S x y (min (n + 1) (S 5 0).toNat)))), (7, .ref (a 10 n)), (0, .ref (a 0 0)), (1, .int (i32 (x : Int))), (2, .int (i32 (y : Int))), (4, .ref (a 4 0)), (5, .int (i32 8))]) E dX5_focus_88 hl (k := 7) rfl (by decide) rfl (fun ls hl => ?_)
                refine lv_goto (tgt := 42) E.1 E.2.1 dX5_focus_91 (by decide) ?_
                exact ih42 (n + 1) G_21 _ _ _ (by omega) (by omega) hG X (lv_sub hl [3, 4, 5, 1, 6, 7, 0] rfl)
            · refine z_aldN (C := "EchoRow$Element") E X 2 (lC_4 M cA a G S) rfl n (by omega) (by omega) (by decide) (if_neg hp_16) dX5_focus_53 ?_
              refine lv_astoreN (lv' := [(7, .null), (0, .ref (a 0 0)), (1, .int (i32 (x : Int))), (2, .int (i32 (y : Int))), (3, .int (i32 (mst S x y (min n (S 5 0).toNat)))), (4, .ref (a 4 0)), (5, .int (i32 8)), (6, .int (i32 (n : Int)))]) E.1 E.2.1 dX5_focus_54 hl (by decide) rfl (fun ls hl => ?_)
              refine lv_aloadN E.1 E.2.1 dX5_focus_56 (lv_at hl 0 rfl) ?_
              refine lv_ifnullN (tgt := 88) E.1 E.2.1 dX5_focus_58 (by decide) ?_
              have em : mst S x y (min (n + 1) (S 5 0).toNat) = mst S x y (min n (S 5 0).toNat) := mst_cut (by omega)
              have hl : lv_has ls 8 [(7, .null), (0, .ref (a 0 0)), (1, .int (i32 (x : Int))), (2, .int (i32 (y : Int))), (3, .int (i32 (mst S x y (min (n + 1) (S 5 0).toNat)))), (4, .ref (a 4 0)), (5, .int (i32 8)), (6, .int (i32 (n : Int)))] := by rw [em]; exact hl
              refine z_iinc (lv' := [(6, .int (i32 ((n + 1 : Nat) : Int))), (7, .null), (0, .ref (a 0 0)), (1, .int (i32 (x : Int))), (2, .int (i32 (y : Int))), (3, .int (i32 (mst S x y (min (n + 1) (S 5 0).toNat)))), (4, .ref (a 4 0)), (5, .int (i32 8))]) E dX5_focus_88 hl (k := 7) rfl (by decide) rfl (fun ls hl => ?_)
              refine lv_goto (tgt := 42) E.1 E.2.1 dX5_focus_91 (by decide) ?_
              exact ih42 (n + 1) G _ _ _ (by omega) (by omega) hG X (lv_sub hl [2, 3, 4, 5, 6, 7, 0] rfl)
      exact key42 ((8 - 0) + 1) 0 G _ _ _ (by omega) (by omega) hG X (lv_sub hl [4, 5, 6, 3, 2, 1, 0] rfl)
    · refine z_bipush E dX5_focus_23 (by decide +kernel) ?_
      have ef : fFocus S (x : Int) (y : Int) = (-3, S) := by
        unfold fFocus
        try unfold fFind
        try simp only [Int.toNat_natCast]
        repeat' split
        all_goals first | rfl | (exfalso; omega)
      exact z_ret E X hQ (⟨(congrArg (fun w => some (Value.int (i32 w.1))) ef).symm, a, G, rfl, by rw [ef]; exact hG, by rw [ef]; exact X.1⟩) dX5_focus_25
  · refine z_bipush E dX5_focus_12 (by decide +kernel) ?_
    have ef : fFocus S x1 x2 = (-2, S) := by
      unfold fFocus
      try unfold fFind
      try simp only [Int.toNat_natCast]
      repeat' split
      all_goals first | rfl | (exfalso; omega)
    exact z_ret E X hQ (⟨(congrArg (fun w => some (Value.int (i32 w.1))) ef).symm, a, G, rfl, by rw [ef]; exact hG, by rw [ef]; exact X.1⟩) dX5_focus_14

theorem ug_no {G : zG} {k i k' : Nat} {g : Nat → Int} (h : k' ≠ k) : ug G k i g k' = G k' := by
  unfold ug
  rw [show Nat.beq k' k = false by
    cases hb : Nat.beq k' k with
    | false => rfl
    | true => exact absurd (Nat.eq_of_beq_eq_true hb) h]
  rfl
theorem clr_S {G G1 : zG} {kk n : Nat} {c : Int} (h : (∀ k : Nat, k ≠ kk → G k = G1 k) ∧ ∀ i : Nat, i < n → (i : Int) < c → ∀ j : Nat, G kk i j = -1) : (∀ k : Nat, k ≠ kk → ug G kk n (fun _ => -1) k = G1 k) ∧ ∀ i : Nat, i < n + 1 → (i : Int) < c → ∀ j : Nat, ug G kk n (fun _ => -1) kk i j = -1 := by
  refine ⟨fun k hk => by rw [ug_no hk]; exact h.1 k hk, fun i hi hc j => ?_⟩
  by_cases e : i = n
  · subst e
    rw [ug_eq]
  · rw [ug_ne e]
    exact h.2 i (by omega) hc j
theorem clr_N {G G1 : zG} {kk n : Nat} {c : Int} (h : (∀ k : Nat, k ≠ kk → G k = G1 k) ∧ ∀ i : Nat, i < n → (i : Int) < c → ∀ j : Nat, G kk i j = -1) (hc : c ≤ (n : Int)) : (∀ k : Nat, k ≠ kk → G k = G1 k) ∧ ∀ i : Nat, i < n + 1 → (i : Int) < c → ∀ j : Nat, G kk i j = -1 := ⟨h.1, fun i _ hi j => h.2 i (by omega) hi j⟩
theorem CG_body {S S2 T : zS} {G Gn : zG} {w p u v : Int} (hLI : LI T u) (t0 : T 0 0 = w) (t2 : T 2 0 = v) (hS2 : S2 = zs (zs (zs (zs S 1 0 w) 2 0 p) 3 0 u) 4 0 v) (h13 : (∀ k : Nat, k ≠ 13 → Gn k = gL G T k) ∧ ∀ i : Nat, (i : Int) < S 8 0 → ∀ j : Nat, Gn 13 i j = -1) (hG : CG S G) : CG (zs S2 17 0 0) Gn := by
  subst hS2
  have e11 : Gn 11 0 = T 6 := by
    rw [h13.1 11 (by decide)]
    rfl
  have e9 : Gn 9 0 = T 5 := by
    rw [h13.1 9 (by decide)]
    rfl
  have e2 : Gn 2 0 = T 3 := by
    rw [h13.1 2 (by decide)]
    rfl
  obtain ⟨-, -, -, l4, l5, l6⟩ := hLI
  refine ⟨fun r hr => by rw [e11]; exact l4 r hr, fun r hr h1 d hd => ?_, fun d hd => ?_, trivial, fun t ht q r hq hr => Or.inl (h13.2 t ht _), fun h => absurd (show (0 : Int) = 1 from h) (by decide), fun i => ?_⟩
  · rw [e11] at h1
    rw [e9]
    have := l5 r hr h1 d hd
    rw [t2, t0] at this
    exact this
  · rw [e2]
    have := l6 d hd
    rw [t0] at this
    exact this
  · rw [h13.1 10 (by decide)]
    exact hG.2.2.2.2.2.2 i
abbrev rX5_body : Room := { frames := 2, cells := 0, slots := 0, locals := 50 }
set_option maxHeartbeats 4000000 in
set_option maxRecDepth 100000 in
theorem X_body (l : Launch) (D : va_G) (cA : Nat → ClassId) (B0 : Nat) (M : zL) (a : Nat → Nat → Nat) (G : zG) (S : zS) (hI : SI S) (hG : CG S G) (x1 x2 x3 x4 : Int) (hx1 : zr x1) (hx2 : zr x2) (hx3 : zr x3) (hx4 : zr x4) : zM l yX5_body wsX5_body rX5_body [.ref (a 0 0), .int (i32 x1), .int (i32 x2), .int (i32 x3), .int (i32 x4)] D cA B0 (zW D B0 (zj (layC cA a G S) M)) (fun v H => v = some (.int (i32 (fBody S x1 x2 x3 x4).1)) ∧ ∃ (a2 : Nat → Nat → Nat) (G2 : zG), a2 0 0 = a 0 0 ∧ CG (fBody S x1 x2 x3 x4).2 G2 ∧ zW D B0 (zj (layC cA a2 G2 (fBody S x1 x2 x3 x4).2) M) H) := by
  refine z_met (cc := cX5_body) (maxL := 9) (ret := (some .int)) (by decide) rfl (Nat.le_of_ble_eq_true rfl) ?_
  intro p e s m args below meth c ls Q hQ E hP hB hS hl
  have hl : lv_has ls 9 [(0, .ref (a 0 0)), (1, .int (i32 x1)), (2, .int (i32 x2)), (3, .int (i32 x3)), (4, .int (i32 x4))] := hl
  have iX3 : ∀ w ∈ u_ws RX3 TX3 6, w ∈ wsX5_body := by decide +kernel
  have iX5 : ∀ w ∈ u_ws RX5 TX5 11, w ∈ wsX5_body := by decide +kernel
  have X : zX D B0 (zj (layC cA a G S) M) s.heap s.heap [] := ⟨hP, hS⟩
  have hI0 := hI.1
  unfold SI0 at hI0
  obtain ⟨b1, b2, b3, b4, b5, b8, b17, b19, b7⟩ := hI0
  unfold zr at hx1 hx2 hx3 hx4
  refine lv_iload_n E.1 E.2.1 dX5_body_0 rfl (lv_at hl 1 rfl) ?_
  refine z_iconst E dX5_body_1 ?_
  refine z_bipush E dX5_body_2 (by decide +kernel) ?_
  refine z_callJ (As := [.int (i32 x1), .int (i32 0), .int (i32 20)]) (rest := []) (n := 3) E X (c_outside l D cA B0 _ x1 0 20 ⟨by omega, by omega⟩ ⟨by omega, by omega⟩ ⟨by omega, by omega⟩) gX5_body_X5_outside rfl (by decide +kernel) ⟨by decide, by decide⟩ rfl hl.1 rfl (Nat.le_of_ble_eq_true rfl) dX5_body_4 ⟨by decide, by decide⟩ rfl 0 0 ⟨rfl, rfl⟩ (fun v H locs hv hS_1 => ?_)
  obtain ⟨hH, z_2, rfl, ez_2⟩ := hv
  subst hH
  replace X := X.same hS_1
  refine z_fne E 20 ⟨by omega, by omega⟩ dX5_body_7 (by decide) (fun h7_3 => ?_) (fun h7_3 => ?_)
  · refine z_bipush E dX5_body_20 (by decide +kernel) ?_
    have ef : fBody S x1 x2 x3 x4 = (-2, S) := by
      unfold fBody
      rw [if_pos (by omega)]
    exact z_ret E X hQ (⟨(congrArg (fun w => some (Value.int (i32 w.1))) ef).symm, a, G, rfl, by rw [ef]; exact hG, by rw [ef]; exact X.1⟩) dX5_body_22
  · refine lv_iload_n E.1 E.2.1 dX5_body_10 rfl (lv_at hl 2 rfl) ?_
    refine z_iconst E dX5_body_11 ?_
    refine z_bipush E dX5_body_12 (by decide +kernel) ?_
    refine z_callJ (As := [.int (i32 x2), .int (i32 1), .int (i32 30)]) (rest := []) (n := 3) E X (c_outside l D cA B0 _ x2 1 30 ⟨by omega, by omega⟩ ⟨by omega, by omega⟩ ⟨by omega, by omega⟩) gX5_body_X5_outside rfl (by decide +kernel) ⟨by decide, by decide⟩ rfl hl.1 rfl (Nat.le_of_ble_eq_true rfl) dX5_body_14 ⟨by decide, by decide⟩ rfl 0 0 ⟨rfl, rfl⟩ (fun v H locs hv hS_4 => ?_)
    obtain ⟨hH, z_5, rfl, ez_5⟩ := hv
    subst hH
    replace X := X.same hS_4
    refine z_feq E 23 ⟨by omega, by omega⟩ dX5_body_17 (by decide) (fun h17_6 => ?_) (fun h17_6 => ?_)
    · refine lv_iload_n E.1 E.2.1 dX5_body_23 rfl (lv_at hl 3 rfl) ?_
      refine z_iconst E dX5_body_24 ?_
      refine z_bipush E dX5_body_25 (by decide +kernel) ?_
      refine z_callJ (As := [.int (i32 x3), .int (i32 1), .int (i32 8)]) (rest := []) (n := 3) E X (c_outside l D cA B0 _ x3 1 8 ⟨by omega, by omega⟩ ⟨by omega, by omega⟩ ⟨by omega, by omega⟩) gX5_body_X5_outside rfl (by decide +kernel) ⟨by decide, by decide⟩ rfl hl.1 rfl (Nat.le_of_ble_eq_true rfl) dX5_body_27 ⟨by decide, by decide⟩ rfl 0 0 ⟨rfl, rfl⟩ (fun v H locs hv hS_7 => ?_)
      obtain ⟨hH, z_8, rfl, ez_8⟩ := hv
      subst hH
      replace X := X.same hS_7
      refine z_fne E 44 ⟨by omega, by omega⟩ dX5_body_30 (by decide) (fun h30_9 => ?_) (fun h30_9 => ?_)
      · refine z_bipush E dX5_body_44 (by decide +kernel) ?_
        have ef : fBody S x1 x2 x3 x4 = (-2, S) := by
          unfold fBody
          rw [if_pos (by omega)]
        exact z_ret E X hQ (⟨(congrArg (fun w => some (Value.int (i32 w.1))) ef).symm, a, G, rfl, by rw [ef]; exact hG, by rw [ef]; exact X.1⟩) dX5_body_46
      · refine lv_iload E.1 E.2.1 dX5_body_33 (lv_at hl 4 rfl) ?_
        refine z_iconst E dX5_body_35 ?_
        refine z_bipush E dX5_body_36 (by decide +kernel) ?_
        refine z_callJ (As := [.int (i32 x4), .int (i32 1), .int (i32 8)]) (rest := []) (n := 3) E X (c_outside l D cA B0 _ x4 1 8 ⟨by omega, by omega⟩ ⟨by omega, by omega⟩ ⟨by omega, by omega⟩) gX5_body_X5_outside rfl (by decide +kernel) ⟨by decide, by decide⟩ rfl hl.1 rfl (Nat.le_of_ble_eq_true rfl) dX5_body_38 ⟨by decide, by decide⟩ rfl 0 0 ⟨rfl, rfl⟩ (fun v H locs hv hS_10 => ?_)
        obtain ⟨hH, z_11, rfl, ez_11⟩ := hv
        subst hH
        replace X := X.same hS_10
        refine z_feq E 47 ⟨by omega, by omega⟩ dX5_body_41 (by decide) (fun h41_12 => ?_) (fun h41_12 => ?_)
        · refine lv_aload_n E.1 E.2.1 dX5_body_47 rfl (lv_at hl 0 rfl) ?_
          refine z_get E X (lC_0 M cA a G S) rfl iX5 2 (by decide) (by decide +kernel) (v := .ref (a 5 0)) rfl dX5_body_48 ?_
          refine lv_astore (lv' := [(5, .ref (a 5 0)), (0, .ref (a 0 0)), (1, .int (i32 x1)), (2, .int (i32 x2)), (3, .int (i32 x3)), (4, .int (i32 x4))]) E.1 E.2.1 dX5_body_51 hl (by decide) rfl (fun ls hl => ?_)
          refine lv_aload E.1 E.2.1 dX5_body_53 (lv_at hl 0 rfl) ?_
          refine z_alen (z := 8) E X 3 (lC_5 M cA a G S) rfl (by omega) dX5_body_55 ?_
          refine lv_istore (lv' := [(6, .int (i32 8)), (5, .ref (a 5 0)), (0, .ref (a 0 0)), (1, .int (i32 x1)), (2, .int (i32 x2)), (3, .int (i32 x3)), (4, .int (i32 x4))]) E.1 E.2.1 dX5_body_56 hl (by decide) rfl (fun ls hl => ?_)
          refine z_iconst E dX5_body_58 ?_
          refine z_top (0 : Int) (rfl) ?_
          refine lv_istore (lv' := [(7, .int (i32 (0 : Int))), (6, .int (i32 8)), (5, .ref (a 5 0)), (0, .ref (a 0 0)), (1, .int (i32 x1)), (2, .int (i32 x2)), (3, .int (i32 x3)), (4, .int (i32 x4))]) E.1 E.2.1 dX5_body_59 hl (by decide) rfl (fun ls hl => ?_)
          have key61 : ∀ (N : Nat) (n : Nat) (H : Heap) (locs : List Loc) (ls : Array Slot), (8 - n) < N → (n ≤ 8) → (∀ k : Nat, k < n → (k : Int) < S 8 0 → fwp S x1 x2 k = true) → zX D B0 (zj (layC cA a G S) M) s.heap H locs → lv_has ls 9 [(0, .ref (a 0 0)), (1, .int (i32 x1)), (2, .int (i32 x2)), (3, .int (i32 x3)), (4, .int (i32 x4)), (5, .ref (a 5 0)), (6, .int (i32 8)), (7, .int (i32 (n : Int)))] → W p l e rX5_body s m args below meth c H locs 0 0 Q (F0 m 61 ls []) := by
            intro N
            induction N with
            | zero => intros; omega
            | succ N ih61 =>
              intro n H locs ls hN hn hal X hl
              refine lv_iload E.1 E.2.1 dX5_body_61 (lv_at hl 7 rfl) ?_
              refine lv_iload E.1 E.2.1 dX5_body_63 (lv_at hl 6 rfl) ?_
              refine z_cge E 113 ⟨by omega, by omega⟩ ⟨by omega, by omega⟩ dX5_body_65 (by decide) (fun h65_13 => ?_) (fun h65_13 => ?_)
              · refine lv_aload_n E.1 E.2.1 dX5_body_113 rfl (lv_at hl 0 rfl) ?_
                refine z_get E X (lC_0 M cA a G S) rfl iX5 0 (by decide) (by decide +kernel) (v := .ref (a 1 0)) rfl dX5_body_114 ?_
                refine lv_iload_n E.1 E.2.1 dX5_body_117 rfl (lv_at hl 1 rfl) ?_
                refine lv_iload_n E.1 E.2.1 dX5_body_118 rfl (lv_at hl 2 rfl) ?_
                refine lv_iload_n E.1 E.2.1 dX5_body_119 rfl (lv_at hl 3 rfl) ?_
                refine lv_iload E.1 E.2.1 dX5_body_120 (lv_at hl 4 rfl) ?_
                have hall : alln (fwp S x1 x2) (S 8 0).toNat = true := alln_all (fun k hk => hal k (by omega) (by omega))
                replace X := cl_in X
                refine z_callV (As := [.int (i32 x1), .int (i32 x2), .int (i32 x3), .int (i32 x4)]) (rest := []) (n := 4) E X (lL_0 _ cA (hL a) (TL S G)) rfl (L_lay l D cA B0 (zj (layC cA a G S) M) (hL a) (TL S G) x1 x2 x3 x4 (by omega) (by omega) (by omega) (by omega)) gX5_body_X1_lay rfl (by decide +kernel) ⟨by decide, by decide⟩ rfl hl.1 rfl (Nat.le_of_ble_eq_true rfl) dX5_body_122 ⟨by decide, by decide⟩ X.1 0 0 ⟨rfl, rfl⟩ (fun v H locs hv hS_14 => ?_)
                obtain ⟨rfl, T, hLI, t0, t1, t2, hw⟩ := hv
                obtain ⟨S2, hS2⟩ : ∃ S2 : zS, S2 = zs (zs (zs (zs S 1 0 x1) 2 0 x2) 3 0 x3) 4 0 x4 := ⟨_, rfl⟩
                have X := cl_out (S' := S2) ⟨hw, hS_14⟩ (by rw [hS2]; exact t0.symm) (by rw [hS2]; exact t1.symm) (by rw [hS2]; exact t2.symm) (fun k n1 n2 n3 n4 => by rw [hS2, zs_ne n4, zs_ne n3, zs_ne n2, zs_ne n1])
                have d5 : S2 5 0 = S 5 0 := by rw [hS2]; rfl
                have d8 : S2 8 0 = S 8 0 := by rw [hS2]; rfl
                refine lv_aload_n E.1 E.2.1 dX5_body_125 rfl (lv_at hl 0 rfl) ?_
                refine z_get E X (lC_0 M cA a (gL G T) S2) rfl iX5 2 (by decide) (by decide +kernel) (v := .ref (a 5 0)) rfl dX5_body_126 ?_
                refine lv_astore (lv' := [(5, .ref (a 5 0)), (0, .ref (a 0 0)), (1, .int (i32 x1)), (2, .int (i32 x2)), (3, .int (i32 x3)), (4, .int (i32 x4)), (6, .int (i32 8)), (7, .int (i32 (n : Int)))]) E.1 E.2.1 dX5_body_129 hl (by decide) rfl (fun ls hl => ?_)
                refine lv_aload E.1 E.2.1 dX5_body_131 (lv_at hl 0 rfl) ?_
                refine z_alen (z := 8) E X 3 (lC_5 M cA a (gL G T) S2) rfl (by omega) dX5_body_133 ?_
                refine lv_istore (lv' := [(6, .int (i32 8)), (5, .ref (a 5 0)), (0, .ref (a 0 0)), (1, .int (i32 x1)), (2, .int (i32 x2)), (3, .int (i32 x3)), (4, .int (i32 x4)), (7, .int (i32 (n : Int)))]) E.1 E.2.1 dX5_body_134 hl (by decide) rfl (fun ls hl => ?_)
                refine z_iconst E dX5_body_136 ?_
                refine z_top (0 : Int) (rfl) ?_
                refine lv_istore (lv' := [(7, .int (i32 (0 : Int))), (6, .int (i32 8)), (5, .ref (a 5 0)), (0, .ref (a 0 0)), (1, .int (i32 x1)), (2, .int (i32 x2)), (3, .int (i32 x3)), (4, .int (i32 x4))]) E.1 E.2.1 dX5_body_137 hl (by decide) rfl (fun ls hl => ?_)
                have key139 : ∀ (N : Nat) (n : Nat) (G2 : zG) (H : Heap) (locs : List Loc) (ls : Array Slot), (8 - n) < N → (n ≤ 8) → ((∀ k : Nat, k ≠ 13 → G2 k = (gL G T) k) ∧ ∀ i : Nat, i < n → (i : Int) < S 8 0 → ∀ j : Nat, G2 13 i j = -1) → zX D B0 (zj (layC cA a G2 S2) M) s.heap H locs → lv_has ls 9 [(0, .ref (a 0 0)), (1, .int (i32 x1)), (2, .int (i32 x2)), (3, .int (i32 x3)), (4, .int (i32 x4)), (5, .ref (a 5 0)), (6, .int (i32 8)), (7, .int (i32 (n : Int)))] → W p l e rX5_body s m args below meth c H locs 0 0 Q (F0 m 139 ls []) := by
                  intro N
                  induction N with
                  | zero => intros; omega
                  | succ N ih139 =>
                    intro n G2 H locs ls hN hn hc X hl
                    refine lv_iload E.1 E.2.1 dX5_body_139 (lv_at hl 7 rfl) ?_
                    refine lv_iload E.1 E.2.1 dX5_body_141 (lv_at hl 6 rfl) ?_
                    refine z_cge E 169 ⟨by omega, by omega⟩ ⟨by omega, by omega⟩ dX5_body_143 (by decide) (fun h143_15 => ?_) (fun h143_15 => ?_)
                    · have h13 : (∀ k : Nat, k ≠ 13 → G2 k = (gL G T) k) ∧ ∀ i : Nat, (i : Int) < S 8 0 → ∀ j : Nat, G2 13 i j = -1 := ⟨hc.1, fun i hi j => hc.2 i (by omega) hi j⟩
                      refine lv_aload_n E.1 E.2.1 dX5_body_169 rfl (lv_at hl 0 rfl) ?_
                      refine z_iconst E dX5_body_170 ?_
                      refine z_put E X (lC_0 M cA a G2 S2) rfl iX5 tyX5 tyX5_ok nmX5 10 (by decide) (by decide +kernel) rfl (z_nb (by omega)).1 (z_nb (by omega)).2 (Nat.le_of_ble_eq_true rfl) dX5_body_171 (fun H locs X => ?_)
                      have X := cw_focused X
                      refine lv_aload_n E.1 E.2.1 dX5_body_174 rfl (lv_at hl 0 rfl) ?_
                      refine z_get E X (lC_0 M cA a G2 (zs S2 17 0 0)) rfl iX5 0 (by decide) (by decide +kernel) (v := .ref (a 1 0)) rfl dX5_body_175 ?_
                      replace X := cl_in X
                      refine z_callV (As := []) (rest := []) (n := 0) E X (lL_0 _ cA (hL a) (TL (zs S2 17 0 0) G2)) rfl (L_floor l D cA B0 (zj (layC cA a G2 (zs S2 17 0 0)) M) (hL a) (TL (zs S2 17 0 0) G2)) gX5_body_X1_floor rfl (by decide +kernel) ⟨by decide, by decide⟩ rfl hl.1 rfl (Nat.le_of_ble_eq_true rfl) dX5_body_178 ⟨by decide, by decide⟩ X.1 0 0 ⟨rfl, rfl⟩ (fun v H locs hv hS_16 => ?_)
                      obtain ⟨rfl, hw⟩ := hv
                      replace X : zX D B0 (zj (layC cA a G2 (zs S2 17 0 0)) M) s.heap H locs := cl_un ⟨hw, hS_16⟩
                      refine z_top ((S2 1 0) + (S2 2 0)) rfl ?_
                      refine z_top (x1 + x2) (by rw [hS2]; rfl) ?_
                      have ef : fBody S x1 x2 x3 x4 = (x1 + x2, zs S2 17 0 0) := by
                        unfold fBody
                        rw [if_neg (by omega), if_pos hall, hS2]
                      exact z_ret E X hQ (⟨(congrArg (fun w => some (Value.int (i32 w.1))) ef).symm, a, G2, rfl, by rw [ef]; exact CG_body hLI t0 t2 hS2 h13 hG, by rw [ef]; exact X.1⟩) dX5_body_181
                    · refine lv_aload E.1 E.2.1 dX5_body_146 (lv_at hl 5 rfl) ?_
                      refine lv_iload E.1 E.2.1 dX5_body_148 (lv_at hl 7 rfl) ?_
                      by_cases hp_17 : ((n : Nat) : Int) < S2 8 0
                      · refine z_aldS (C := "EchoRow$Target") E X 3 (lC_5 M cA a G2 S2) rfl n (by omega) (by omega) (by decide) (if_pos hp_17) dX5_body_150 ?_
                        refine lv_astore (lv' := [(8, .ref (a 12 n)), (0, .ref (a 0 0)), (1, .int (i32 x1)), (2, .int (i32 x2)), (3, .int (i32 x3)), (4, .int (i32 x4)), (5, .ref (a 5 0)), (6, .int (i32 8)), (7, .int (i32 (n : Int)))]) E.1 E.2.1 dX5_body_151 hl (by decide) rfl (fun ls hl => ?_)
                        refine lv_aload E.1 E.2.1 dX5_body_153 (lv_at hl 0 rfl) ?_
                        refine lv_ifnull E.1 E.2.1 dX5_body_155 ?_
                        refine lv_aload E.1 E.2.1 dX5_body_158 (lv_at hl 0 rfl) ?_
                        refine z_callV (As := []) (rest := []) (n := 0) E X (lC_12 M cA a G2 S2 n (by omega)) rfl (x_forgetT l D cA B0 M a G2 S2 n (by omega)) gX5_body_X3_forgetTimes rfl (by decide +kernel) ⟨by decide, by decide⟩ rfl hl.1 rfl (Nat.le_of_ble_eq_true rfl) dX5_body_160 ⟨by decide, by decide⟩ X.1 0 0 ⟨rfl, rfl⟩ (fun v H locs hv hS_18 => ?_)
                        obtain ⟨rfl, hw⟩ := hv
                        replace X : zX D B0 (zj (layC cA a (ug G2 13 n (fun _ => -1)) S2) M) s.heap H locs := ⟨hw, hS_18⟩
                        refine z_iinc (lv' := [(7, .int (i32 ((n + 1 : Nat) : Int))), (8, .ref (a 12 n)), (0, .ref (a 0 0)), (1, .int (i32 x1)), (2, .int (i32 x2)), (3, .int (i32 x3)), (4, .int (i32 x4)), (5, .ref (a 5 0)), (6, .int (i32 8))]) E dX5_body_163 hl (k := 8) rfl (by decide) rfl (fun ls hl => ?_)
                        refine lv_goto (tgt := 139) E.1 E.2.1 dX5_body_166 (by decide) ?_
                        exact ih139 (n + 1) (ug G2 13 n (fun _ => -1)) _ _ _ (by omega) (by omega) (clr_S hc) X (lv_sub hl [2, 3, 4, 5, 6, 7, 8, 0] rfl)
                      · refine z_aldN (C := "EchoRow$Target") E X 3 (lC_5 M cA a G2 S2) rfl n (by omega) (by omega) (by decide) (if_neg hp_17) dX5_body_150 ?_
                        refine lv_astoreN (lv' := [(8, .null), (0, .ref (a 0 0)), (1, .int (i32 x1)), (2, .int (i32 x2)), (3, .int (i32 x3)), (4, .int (i32 x4)), (5, .ref (a 5 0)), (6, .int (i32 8)), (7, .int (i32 (n : Int)))]) E.1 E.2.1 dX5_body_151 hl (by decide) rfl (fun ls hl => ?_)
                        refine lv_aloadN E.1 E.2.1 dX5_body_153 (lv_at hl 0 rfl) ?_
                        refine lv_ifnullN (tgt := 163) E.1 E.2.1 dX5_body_155 (by decide) ?_
                        refine z_iinc (lv' := [(7, .int (i32 ((n + 1 : Nat) : Int))), (8, .null), (0, .ref (a 0 0)), (1, .int (i32 x1)), (2, .int (i32 x2)), (3, .int (i32 x3)), (4, .int (i32 x4)), (5, .ref (a 5 0)), (6, .int (i32 8))]) E dX5_body_163 hl (k := 8) rfl (by decide) rfl (fun ls hl => ?_)
                        refine lv_goto (tgt := 139) E.1 E.2.1 dX5_body_166 (by decide) ?_
                        exact ih139 (n + 1) G2 _ _ _ (by omega) (by omega) (clr_N hc (by omega)) X (lv_sub hl [2, 3, 4, 5, 6, 7, 8, 0] rfl)
                exact key139 ((8 - 0) + 1) 0 (gL G T) _ _ _ (by omega) (by omega) (⟨fun _ _ => rfl, fun i hi => absurd hi (Nat.not_lt_zero i)⟩) X (lv_sub hl [3, 4, 5, 6, 7, 2, 1, 0] rfl)
              · refine lv_aload E.1 E.2.1 dX5_body_68 (lv_at hl 5 rfl) ?_
                refine lv_iload E.1 E.2.1 dX5_body_70 (lv_at hl 7 rfl) ?_
                by_cases hp_19 : ((n : Nat) : Int) < S 8 0
                · refine z_aldS (C := "EchoRow$Target") E X 3 (lC_5 M cA a G S) rfl n (by omega) (by omega) (by decide) (if_pos hp_19) dX5_body_72 ?_
                  refine lv_astore (lv' := [(8, .ref (a 12 n)), (0, .ref (a 0 0)), (1, .int (i32 x1)), (2, .int (i32 x2)), (3, .int (i32 x3)), (4, .int (i32 x4)), (5, .ref (a 5 0)), (6, .int (i32 8)), (7, .int (i32 (n : Int)))]) E.1 E.2.1 dX5_body_73 hl (by decide) rfl (fun ls hl => ?_)
                  refine lv_aload E.1 E.2.1 dX5_body_75 (lv_at hl 0 rfl) ?_
                  refine lv_ifnull E.1 E.2.1 dX5_body_77 ?_
                  have ht2 := hI.2.2.1 n (by omega)
                  refine lv_aload E.1 E.2.1 dX5_body_80 (lv_at hl 0 rfl) ?_
                  refine z_get E X (lC_12 M cA a G S n (by omega)) rfl iX3 0 (by decide) (by decide +kernel) (v := .int (i32 (S 9 n))) rfl dX5_body_82 ?_
                  refine z_iconst E dX5_body_85 ?_
                  refine z_ceq E 107 ⟨by omega, by omega⟩ ⟨by omega, by omega⟩ dX5_body_86 (by decide) (fun h86_20 => ?_) (fun h86_20 => ?_)
                  · refine z_iinc (lv' := [(7, .int (i32 ((n + 1 : Nat) : Int))), (8, .ref (a 12 n)), (0, .ref (a 0 0)), (1, .int (i32 x1)), (2, .int (i32 x2)), (3, .int (i32 x3)), (4, .int (i32 x4)), (5, .ref (a 5 0)), (6, .int (i32 8))]) E dX5_body_107 hl (k := 8) rfl (by decide) rfl (fun ls hl => ?_)
                    refine lv_goto (tgt := 61) E.1 E.2.1 dX5_body_110 (by decide) ?_
                    exact ih61 (n + 1) _ _ _ (by omega) (by omega) (fun k hk hk2 => by rcases Nat.lt_or_ge k n with q | q; exact hal k q hk2; rw [show k = n by omega] at hk2 ⊢; exact (if hq : (n : Int) < S 8 0 then (by first | (exfalso; omega) | exact decide_eq_true (by omega)) else (absurd hk2 hq))) X (lv_sub hl [2, 3, 4, 5, 6, 7, 8, 0] rfl)
                  · refine lv_aload E.1 E.2.1 dX5_body_89 (lv_at hl 0 rfl) ?_
                    refine z_get E X (lC_12 M cA a G S n (by omega)) rfl iX3 3 (by decide) (by decide +kernel) (v := .int (i32 (if S 9 n = 2 then 0 else S 12 n))) rfl dX5_body_91 ?_
                    refine z_top (S 12 n) (by rw [if_neg (by omega)]) ?_
                    refine lv_iload_n E.1 E.2.1 dX5_body_94 rfl (lv_at hl 2 rfl) ?_
                    refine lv_iload_n E.1 E.2.1 dX5_body_95 rfl (lv_at hl 2 rfl) ?_
                    refine lv_iload_n E.1 E.2.1 dX5_body_96 rfl (lv_at hl 3 rfl) ?_
                    refine z_iadd E dX5_body_97 ?_
                    refine z_callJ (As := [.int (i32 (S 12 n)), .int (i32 x1), .int (i32 (x1 + x2))]) (rest := []) (n := 3) E X (c_outside l D cA B0 _ (S 12 n) x1 (x1 + x2) ⟨by omega, by omega⟩ ⟨by omega, by omega⟩ ⟨by omega, by omega⟩) gX5_body_X5_outside rfl (by decide +kernel) ⟨by decide, by decide⟩ rfl hl.1 rfl (Nat.le_of_ble_eq_true rfl) dX5_body_98 ⟨by decide, by decide⟩ rfl 0 0 ⟨rfl, rfl⟩ (fun v H locs hv hS_21 => ?_)
                    obtain ⟨hH, z_22, rfl, ez_22⟩ := hv
                    subst hH
                    replace X := X.same hS_21
                    refine z_feq E 107 ⟨by omega, by omega⟩ dX5_body_101 (by decide) (fun h101_23 => ?_) (fun h101_23 => ?_)
                    · refine z_iinc (lv' := [(7, .int (i32 ((n + 1 : Nat) : Int))), (8, .ref (a 12 n)), (0, .ref (a 0 0)), (1, .int (i32 x1)), (2, .int (i32 x2)), (3, .int (i32 x3)), (4, .int (i32 x4)), (5, .ref (a 5 0)), (6, .int (i32 8))]) E dX5_body_107 hl (k := 8) rfl (by decide) rfl (fun ls hl => ?_)
                      refine lv_goto (tgt := 61) E.1 E.2.1 dX5_body_110 (by decide) ?_
                      exact ih61 (n + 1) _ _ _ (by omega) (by omega) (fun k hk hk2 => by rcases Nat.lt_or_ge k n with q | q; exact hal k q hk2; rw [show k = n by omega] at hk2 ⊢; exact (if hq : (n : Int) < S 8 0 then (by first | (exfalso; omega) | exact decide_eq_true (by omega)) else (absurd hk2 hq))) X (lv_sub hl [2, 3, 4, 5, 6, 7, 8, 0] rfl)
                    · refine z_bipush E dX5_body_104 (by decide +kernel) ?_
                      have ef : fBody S x1 x2 x3 x4 = (-3, S) := by
                        unfold fBody
                        rw [if_neg (by omega), alln_no (f := fwp S x1 x2) (n := n) (decide_eq_false (by omega)) (by omega)]
                        rfl
                      exact z_ret E X hQ (⟨(congrArg (fun w => some (Value.int (i32 w.1))) ef).symm, a, G, rfl, by rw [ef]; exact hG, by rw [ef]; exact X.1⟩) dX5_body_106
                · refine z_aldN (C := "EchoRow$Target") E X 3 (lC_5 M cA a G S) rfl n (by omega) (by omega) (by decide) (if_neg hp_19) dX5_body_72 ?_
                  refine lv_astoreN (lv' := [(8, .null), (0, .ref (a 0 0)), (1, .int (i32 x1)), (2, .int (i32 x2)), (3, .int (i32 x3)), (4, .int (i32 x4)), (5, .ref (a 5 0)), (6, .int (i32 8)), (7, .int (i32 (n : Int)))]) E.1 E.2.1 dX5_body_73 hl (by decide) rfl (fun ls hl => ?_)
                  refine lv_aloadN E.1 E.2.1 dX5_body_75 (lv_at hl 0 rfl) ?_
                  refine lv_ifnullN (tgt := 107) E.1 E.2.1 dX5_body_77 (by decide) ?_
                  refine z_iinc (lv' := [(7, .int (i32 ((n + 1 : Nat) : Int))), (8, .null), (0, .ref (a 0 0)), (1, .int (i32 x1)), (2, .int (i32 x2)), (3, .int (i32 x3)), (4, .int (i32 x4)), (5, .ref (a 5 0)), (6, .int (i32 8))]) E dX5_body_107 hl (k := 8) rfl (by decide) rfl (fun ls hl => ?_)
                  refine lv_goto (tgt := 61) E.1 E.2.1 dX5_body_110 (by decide) ?_
                  exact ih61 (n + 1) _ _ _ (by omega) (by omega) (fun k hk hk2 => by rcases Nat.lt_or_ge k n with q | q; exact hal k q hk2; rw [show k = n by omega] at hk2 ⊢; exact (if hq : (n : Int) < S 8 0 then (by first | (exfalso; omega) | exact decide_eq_true (by omega)) else (absurd hk2 hq))) X (lv_sub hl [2, 3, 4, 5, 6, 7, 8, 0] rfl)
          exact key61 ((8 - 0) + 1) 0 _ _ _ (by omega) (by omega) (fun k hk => absurd hk (Nat.not_lt_zero k)) X (lv_sub hl [3, 4, 5, 6, 7, 2, 1, 0] rfl)
        · refine z_bipush E dX5_body_44 (by decide +kernel) ?_
          have ef : fBody S x1 x2 x3 x4 = (-2, S) := by
            unfold fBody
            rw [if_pos (by omega)]
          exact z_ret E X hQ (⟨(congrArg (fun w => some (Value.int (i32 w.1))) ef).symm, a, G, rfl, by rw [ef]; exact hG, by rw [ef]; exact X.1⟩) dX5_body_46
    · refine z_bipush E dX5_body_20 (by decide +kernel) ?_
      have ef : fBody S x1 x2 x3 x4 = (-2, S) := by
        unfold fBody
        rw [if_pos (by omega)]
      exact z_ret E X hQ (⟨(congrArg (fun w => some (Value.int (i32 w.1))) ef).symm, a, G, rfl, by rw [ef]; exact hG, by rw [ef]; exact X.1⟩) dX5_body_22

abbrev rX5_record : Room := { frames := 5, cells := 0, slots := 0, locals := 132 }
set_option maxHeartbeats 4000000 in
set_option maxRecDepth 100000 in
theorem X_record (l : Launch) (D : va_G) (cA : Nat → ClassId) (B0 : Nat) (M : zL) (a : Nat → Nat → Nat) (G : zG) (S : zS) (hI : SI S) (hG : CG S G) (x1 x2 x3 x4 : Int) (hx1 : zr x1) (hx2 : zr x2) (hx3 : zr x3) (hx4 : zr x4) : zM l yX5_record wsX5_record rX5_record [.ref (a 0 0), .int (i32 x1), .int (i32 x2), .int (i32 x3), .int (i32 x4)] D cA B0 (zW D B0 (zj (layC cA a G S) M)) (fun v H => v = some (.int (i32 (fRecord S x1 x2 x3 x4).1)) ∧ ∃ (a2 : Nat → Nat → Nat) (G2 : zG), a2 0 0 = a 0 0 ∧ CG (fRecord S x1 x2 x3 x4).2 G2 ∧ zW D B0 (zj (layC cA a2 G2 (fRecord S x1 x2 x3 x4).2) M) H) := by
  refine z_met (cc := cX5_record) (maxL := 9) (ret := (some .int)) (by decide) rfl (Nat.le_of_ble_eq_true rfl) ?_
  intro p e s m args below meth c ls Q hQ E hP hB hS hl
  have hl : lv_has ls 9 [(0, .ref (a 0 0)), (1, .int (i32 x1)), (2, .int (i32 x2)), (3, .int (i32 x3)), (4, .int (i32 x4))] := hl
  have iX2 : ∀ w ∈ u_ws RX2 TX2 2, w ∈ wsX5_record := by decide +kernel
  have iX5 : ∀ w ∈ u_ws RX5 TX5 11, w ∈ wsX5_record := by decide +kernel
  have X : zX D B0 (zj (layC cA a G S) M) s.heap s.heap [] := ⟨hP, hS⟩
  have hI0 := hI.1
  unfold SI0 at hI0
  obtain ⟨b1, b2, b3, b4, b5, b8, b17, b19, b7⟩ := hI0
  unfold zr at hx1 hx2 hx3 hx4
  refine lv_iload_n E.1 E.2.1 dX5_record_0 rfl (lv_at hl 1 rfl) ?_
  refine z_callJ (As := [.int (i32 x1)]) (rest := []) (n := 1) E X (c_noSheet l D cA B0 _ x1 ⟨by omega, by omega⟩) gX5_record_X5_noSheet rfl (by decide +kernel) ⟨by decide, by decide⟩ rfl hl.1 rfl (Nat.le_of_ble_eq_true rfl) dX5_record_1 ⟨by decide, by decide⟩ rfl 0 0 ⟨rfl, rfl⟩ (fun v H locs hv hS_1 => ?_)
  obtain ⟨hH, z_2, rfl, ez_2⟩ := hv
  subst hH
  replace X := X.same hS_1
  refine z_feq E 14 ⟨by omega, by omega⟩ dX5_record_4 (by decide) (fun h4_3 => ?_) (fun h4_3 => ?_)
  · obtain ⟨q, rfl⟩ : ∃ q : Nat, x1 = (q : Int) := ⟨x1.toNat, by omega⟩
    have h4 := hI.2.2.2.2.1.1 q (by omega)
    refine lv_aload_n E.1 E.2.1 dX5_record_14 rfl (lv_at hl 0 rfl) ?_
    refine lv_iload_n E.1 E.2.1 dX5_record_15 rfl (lv_at hl 2 rfl) ?_
    refine z_callV (As := [.int (i32 x2)]) (rest := []) (n := 1) E X (lC_0 M cA a G S) rfl (x_en l D cA B0 M a G S hI.1 x2 ⟨by omega, by omega⟩) gX5_record_X5_elementNumbered rfl (by decide +kernel) ⟨by decide, by decide⟩ rfl hl.1 rfl (Nat.le_of_ble_eq_true rfl) dX5_record_16 ⟨by decide, by decide⟩ X.1 0 0 ⟨rfl, rfl⟩ (fun v H locs hv hS_4 => ?_)
    obtain ⟨hv, hw⟩ := hv
    replace X : zX D B0 (zj (layC cA a G S) M) s.heap H locs := ⟨hw, hS_4⟩
    rcases hv with ⟨ea, rfl, he_6, rfl⟩ | ⟨hn_7, rfl⟩
    · refine lv_astore (lv' := [(5, .ref (a 10 ea)), (0, .ref (a 0 0)), (1, .int (i32 (q : Int))), (2, .int (i32 (ea : Int))), (3, .int (i32 x3)), (4, .int (i32 x4))]) E.1 E.2.1 dX5_record_19 hl (by decide) rfl (fun ls hl => ?_)
      refine lv_aload_n E.1 E.2.1 dX5_record_21 rfl (lv_at hl 1 rfl) ?_
      refine lv_iload_n E.1 E.2.1 dX5_record_22 rfl (lv_at hl 4 rfl) ?_
      refine z_callV (As := [.int (i32 x3)]) (rest := []) (n := 1) E X (lC_0 M cA a G S) rfl (x_en l D cA B0 M a G S hI.1 x3 ⟨by omega, by omega⟩) gX5_record_X5_elementNumbered rfl (by decide +kernel) ⟨by decide, by decide⟩ rfl hl.1 rfl (Nat.le_of_ble_eq_true rfl) dX5_record_23 ⟨by decide, by decide⟩ X.1 0 0 ⟨rfl, rfl⟩ (fun v H locs hv hS_8 => ?_)
      obtain ⟨hv, hw⟩ := hv
      replace X : zX D B0 (zj (layC cA a G S) M) s.heap H locs := ⟨hw, hS_8⟩
      rcases hv with ⟨eb, rfl, he_10, rfl⟩ | ⟨hn_11, rfl⟩
      · refine lv_astore (lv' := [(6, .ref (a 10 eb)), (5, .ref (a 10 ea)), (0, .ref (a 0 0)), (1, .int (i32 (q : Int))), (2, .int (i32 (ea : Int))), (3, .int (i32 (eb : Int))), (4, .int (i32 x4))]) E.1 E.2.1 dX5_record_26 hl (by decide) rfl (fun ls hl => ?_)
        refine lv_aload E.1 E.2.1 dX5_record_28 (lv_at hl 1 rfl) ?_
        refine lv_ifnull E.1 E.2.1 dX5_record_30 ?_
        refine lv_aload E.1 E.2.1 dX5_record_33 (lv_at hl 0 rfl) ?_
        refine lv_ifnonnull (tgt := 40) E.1 E.2.1 dX5_record_35 (by decide) ?_
        refine lv_aload_n E.1 E.2.1 dX5_record_40 rfl (lv_at hl 2 rfl) ?_
        refine z_get E X (lC_0 M cA a G S) rfl iX5 4 (by decide) (by decide +kernel) (v := .ref (a 7 0)) rfl dX5_record_41 ?_
        refine lv_iload_n E.1 E.2.1 dX5_record_44 rfl (lv_at hl 3 rfl) ?_
        by_cases hp_12 : 0 ≤ S 23 q
        · refine z_aldS (C := "EchoRow$Sheet") E X 5 (lC_7 M cA a G S) rfl q (by omega) (by omega) (by decide) (if_pos hp_12) dX5_record_45 ?_
          refine lv_astore (lv' := [(7, .ref (a 15 q)), (6, .ref (a 10 eb)), (5, .ref (a 10 ea)), (0, .ref (a 0 0)), (1, .int (i32 (q : Int))), (2, .int (i32 (ea : Int))), (3, .int (i32 (eb : Int))), (4, .int (i32 x4))]) E.1 E.2.1 dX5_record_46 hl (by decide) rfl (fun ls hl => ?_)
          refine lv_aload E.1 E.2.1 dX5_record_48 (lv_at hl 0 rfl) ?_
          refine lv_ifnonnull (tgt := 60) E.1 E.2.1 dX5_record_50 (by decide) ?_
          refine z_iconst E dX5_record_60 ?_
          refine z_top (0 : Int) (rfl) ?_
          refine lv_istore (lv' := [(8, .int (i32 (0 : Int))), (7, .ref (a 15 q)), (6, .ref (a 10 eb)), (5, .ref (a 10 ea)), (0, .ref (a 0 0)), (1, .int (i32 (q : Int))), (2, .int (i32 (ea : Int))), (3, .int (i32 (eb : Int))), (4, .int (i32 x4))]) E.1 E.2.1 dX5_record_61 hl (by decide) rfl (fun ls hl => ?_)
          have key63 : ∀ (N : Nat) (i : Nat) (T : zS) (G : zG) (H : Heap) (locs : List Loc) (ls : Array Slot), ((S 23 q).toNat - i) < N → ((i : Int) ≤ S 23 q) → (T = rcd S q ea eb x4 i) → (CG T G) → zX D B0 (zj (layC cA a G T) M) s.heap H locs → lv_has ls 9 [(0, .ref (a 0 0)), (1, .int (i32 (q : Int))), (2, .int (i32 (ea : Int))), (3, .int (i32 (eb : Int))), (4, .int (i32 x4)), (5, .ref (a 10 ea)), (6, .ref (a 10 eb)), (7, .ref (a 15 q)), (8, .int (i32 (i : Int)))] → W p l e rX5_record s m args below meth c H locs 0 0 Q (F0 m 63 ls []) := by
            intro N
            induction N with
            | zero => intros; omega
            | succ N ih63 =>
              intro i T G H locs ls hN hi hT hG X hl
              refine lv_iload E.1 E.2.1 dX5_record_63 (lv_at hl 8 rfl) ?_
              have eT : ∀ k : Nat, k ≠ 25 → T k = S k := fun k hk => by rw [hT]; exact rcd_k hk _
              have h64 : ∀ i : Nat, i < 6 → T 23 i ≤ 64 := fun i hi => by rw [eT 23 (by decide)]; exact (hI.2.2.2.2.1.1 i hi).1.2
              have d5 : T 5 0 = S 5 0 := by rw [eT 5 (by decide)]
              have d23 : T 23 q = S 23 q := by rw [eT 23 (by decide)]
              have d24 : T 24 q = S 24 q := by rw [eT 24 (by decide)]
              have hIT : SI T := by rw [hT]; exact SI_25 hI (fun k hk => rcd_k hk _) (rcd_zr hI.2.2.2.2.1.2 i)
              refine lv_aload E.1 E.2.1 dX5_record_65 (lv_at hl 7 rfl) ?_
              refine z_get E X (lC_15 M cA a G T q ⟨by omega, by omega⟩) rfl iX2 1 (by decide) (by decide +kernel) (v := .ref (a 16 q)) rfl dX5_record_67 ?_
              refine z_alen (z := T 23 q) E X 0 (lC_16 M cA a G T q ⟨by omega, by omega⟩) rfl (by omega) dX5_record_70 ?_
              refine z_top (S 23 q) (d23) ?_
              refine z_cge E 109 ⟨by omega, by omega⟩ ⟨by omega, by omega⟩ dX5_record_71 (by decide) (fun h71_13 => ?_) (fun h71_13 => ?_)
              · refine lv_aload E.1 E.2.1 dX5_record_109 (lv_at hl 7 rfl) ?_
                refine z_get E X (lC_15 M cA a G T q ⟨by omega, by omega⟩) rfl iX2 1 (by decide) (by decide +kernel) (v := .ref (a 16 q)) rfl dX5_record_111 ?_
                refine z_alen (z := T 23 q) E X 0 (lC_16 M cA a G T q ⟨by omega, by omega⟩) rfl (by omega) dX5_record_114 ?_
                refine z_top (S 23 q) (d23) ?_
                have ef : fRecord S (q : Int) (ea : Int) (eb : Int) x4 = (S 23 q, T) := by
                  unfold fRecord
                  simp only [Int.toNat_natCast]
                  rw [if_neg (by omega), if_neg (by omega), if_neg (by omega), show (S 23 q).toNat = i by omega, ← hT]
                exact z_ret E X hQ (⟨(congrArg (fun w => some (Value.int (i32 w.1))) ef).symm, a, G, rfl, by rw [ef]; exact hG, by rw [ef]; exact X.1⟩) dX5_record_115
              · refine lv_aload E.1 E.2.1 dX5_record_74 (lv_at hl 7 rfl) ?_
                refine z_get E X (lC_15 M cA a G T q ⟨by omega, by omega⟩) rfl iX2 1 (by decide) (by decide +kernel) (v := .ref (a 16 q)) rfl dX5_record_76 ?_
                refine lv_iload E.1 E.2.1 dX5_record_79 (lv_at hl 8 rfl) ?_
                refine lv_aload E.1 E.2.1 dX5_record_81 (lv_at hl 7 rfl) ?_
                refine lv_aload_n E.1 E.2.1 dX5_record_83 rfl (lv_at hl 0 rfl) ?_
                refine lv_aload E.1 E.2.1 dX5_record_84 (lv_at hl 5 rfl) ?_
                refine lv_aload E.1 E.2.1 dX5_record_86 (lv_at hl 6 rfl) ?_
                refine lv_iload E.1 E.2.1 dX5_record_88 (lv_at hl 4 rfl) ?_
                refine z_i2l E ⟨by omega, by omega⟩ dX5_record_90 ?_
                refine lv_iload E.1 E.2.1 dX5_record_91 (lv_at hl 8 rfl) ?_
                refine z_i2l E ⟨by omega, by omega⟩ dX5_record_93 ?_
                refine z_ladd E dX5_record_94 ?_
                refine z_callV (As := [.ref (a 10 ea), .ref (a 10 eb), .long (i64 (x4 + (i : Int)))]) (rest := [.ref (a 15 q), .int (i32 (i : Int)), .ref (a 16 q)]) (n := 3) E X (lC_0 M cA a G T) rfl (x_echoAt l D cA B0 M a G T hIT hG ea eb (x4 + (i : Int)) (by omega) (by omega) (by unfold zrl; omega)) gX5_record_X5_echoAt rfl (by decide +kernel) ⟨by decide, by decide⟩ rfl hl.1 rfl (Nat.le_of_ble_eq_true rfl) dX5_record_95 ⟨by decide, by decide⟩ X.1 0 0 ⟨rfl, rfl⟩ (fun v H locs hv hS_14 => ?_)
                obtain ⟨rfl, G_15, hG, hw⟩ := hv
                replace X : zX D B0 (zj (layC cA a G_15 T) M) s.heap H locs := ⟨hw, hS_14⟩
                have f_16 := EC_rng (a := ea) (b := eb) (tick := (x4 + (i : Int))) hIT
                refine z_top (EC S ea eb (x4 + (i : Int))) (EC_25 eT _ _ _) ?_
                have hec := EC_rng (a := ea) (b := eb) (tick := x4 + (i : Int)) hI
                refine z_i2l E ⟨by omega, by omega⟩ dX5_record_98 ?_
                refine z_callV (As := [.long (i64 (EC S ea eb (x4 + (i : Int))))]) (rest := [.int (i32 (i : Int)), .ref (a 16 q)]) (n := 1) E X (lC_15 M cA a G_15 T q ⟨by omega, by omega⟩) rfl (x_nearestTo l D cA B0 M a G_15 T hIT q (EC S ea eb (x4 + (i : Int))) ⟨by omega, by omega⟩ (by omega)) gX5_record_X2_nearestTo rfl (by decide +kernel) ⟨by decide, by decide⟩ rfl hl.1 rfl (Nat.le_of_ble_eq_true rfl) dX5_record_99 ⟨by decide, by decide⟩ X.1 0 0 ⟨rfl, rfl⟩ (fun v H locs hv hS_17 => ?_)
                obtain ⟨rfl, hw⟩ := hv
                replace X : zX D B0 (zj (layC cA a G_15 T) M) s.heap H locs := ⟨hw, hS_17⟩
                refine z_top (AS (S 24 q) (EC S ea eb (x4 + (i : Int)))) (by rw [d24]) ?_
                refine z_iast E X (lC_16 M cA a G_15 T q ⟨by omega, by omega⟩) i (by omega) (by omega) (by omega) dX5_record_102 (fun H locs X => ?_)
                have X := cw_numbers ⟨by omega, by omega⟩ (by omega) h64 X
                refine z_iinc (lv' := [(8, .int (i32 ((i + 1 : Nat) : Int))), (0, .ref (a 0 0)), (1, .int (i32 (q : Int))), (2, .int (i32 (ea : Int))), (3, .int (i32 (eb : Int))), (4, .int (i32 x4)), (5, .ref (a 10 ea)), (6, .ref (a 10 eb)), (7, .ref (a 15 q))]) E dX5_record_103 hl (k := 8) rfl (by decide) rfl (fun ls hl => ?_)
                refine lv_goto (tgt := 63) E.1 E.2.1 dX5_record_106 (by decide) ?_
                exact ih63 (i + 1) (zs T 25 (64 * q + i) (AS (S 24 q) (EC S ea eb (x4 + (i : Int))))) G_15 _ _ _ (by omega) (by omega) (by rw [hT]; rfl) hG X (lv_sub hl [1, 2, 3, 4, 5, 6, 7, 8, 0] rfl)
          exact key63 (((S 23 q).toNat - 0) + 1) 0 S G _ _ _ (by omega) (by omega) rfl hG X (lv_sub hl [4, 5, 6, 7, 8, 3, 2, 1, 0] rfl)
        · refine z_aldN (C := "EchoRow$Sheet") E X 5 (lC_7 M cA a G S) rfl q (by omega) (by omega) (by decide) (if_neg hp_12) dX5_record_45 ?_
          refine lv_astoreN (lv' := [(7, .null), (6, .ref (a 10 eb)), (5, .ref (a 10 ea)), (0, .ref (a 0 0)), (1, .int (i32 (q : Int))), (2, .int (i32 (ea : Int))), (3, .int (i32 (eb : Int))), (4, .int (i32 x4))]) E.1 E.2.1 dX5_record_46 hl (by decide) rfl (fun ls hl => ?_)
          refine lv_aloadN E.1 E.2.1 dX5_record_48 (lv_at hl 0 rfl) ?_
          refine lv_ifnonnullN E.1 E.2.1 dX5_record_50 ?_
          refine lv_aload_n E.1 E.2.1 dX5_record_53 rfl (lv_at hl 3 rfl) ?_
          refine z_bipush E dX5_record_54 (by decide +kernel) ?_
          refine z_callV (As := [.int (i32 (-11))]) (rest := []) (n := 1) E X (lC_0 M cA a G S) rfl (x_found l D cA B0 M a G S (-11)) gX5_record_X5_found rfl (by decide +kernel) ⟨by decide, by decide⟩ rfl hl.1 rfl (Nat.le_of_ble_eq_true rfl) dX5_record_56 ⟨by decide, by decide⟩ X.1 0 0 ⟨rfl, rfl⟩ (fun v H locs hv hS_18 => ?_)
          obtain ⟨rfl, hw⟩ := hv
          replace X : zX D B0 (zj (layC cA a G (zs S 27 0 (S 27 0 + 1))) M) s.heap H locs := ⟨hw, hS_18⟩
          have ef : fRecord S (q : Int) (ea : Int) (eb : Int) x4 = (-11, zs S 27 0 (S 27 0 + 1)) := by
            unfold fRecord
            try unfold fFind
            try simp only [Int.toNat_natCast]
            repeat' split
            all_goals first | rfl | (exfalso; omega)
          exact z_ret E X hQ (⟨(congrArg (fun w => some (Value.int (i32 w.1))) ef).symm, a, G, rfl, by rw [ef]; exact CG_27 hG, by rw [ef]; exact X.1⟩) dX5_record_59
      · refine lv_astoreN (lv' := [(6, .null), (5, .ref (a 10 ea)), (0, .ref (a 0 0)), (1, .int (i32 (q : Int))), (2, .int (i32 (ea : Int))), (3, .int (i32 x3)), (4, .int (i32 x4))]) E.1 E.2.1 dX5_record_26 hl (by decide) rfl (fun ls hl => ?_)
        refine lv_aload E.1 E.2.1 dX5_record_28 (lv_at hl 1 rfl) ?_
        refine lv_ifnull E.1 E.2.1 dX5_record_30 ?_
        refine lv_aloadN E.1 E.2.1 dX5_record_33 (lv_at hl 0 rfl) ?_
        refine lv_ifnonnullN E.1 E.2.1 dX5_record_35 ?_
        refine z_iconst E dX5_record_38 ?_
        have ef : fRecord S (q : Int) (ea : Int) x3 x4 = (-1, S) := by
          unfold fRecord
          try unfold fFind
          try simp only [Int.toNat_natCast]
          repeat' split
          all_goals first | rfl | (exfalso; omega)
        exact z_ret E X hQ (⟨(congrArg (fun w => some (Value.int (i32 w.1))) ef).symm, a, G, rfl, by rw [ef]; exact hG, by rw [ef]; exact X.1⟩) dX5_record_39
    · refine lv_astoreN (lv' := [(5, .null), (0, .ref (a 0 0)), (1, .int (i32 (q : Int))), (2, .int (i32 x2)), (3, .int (i32 x3)), (4, .int (i32 x4))]) E.1 E.2.1 dX5_record_19 hl (by decide) rfl (fun ls hl => ?_)
      refine lv_aload_n E.1 E.2.1 dX5_record_21 rfl (lv_at hl 1 rfl) ?_
      refine lv_iload_n E.1 E.2.1 dX5_record_22 rfl (lv_at hl 4 rfl) ?_
      refine z_callV (As := [.int (i32 x3)]) (rest := []) (n := 1) E X (lC_0 M cA a G S) rfl (x_en l D cA B0 M a G S hI.1 x3 ⟨by omega, by omega⟩) gX5_record_X5_elementNumbered rfl (by decide +kernel) ⟨by decide, by decide⟩ rfl hl.1 rfl (Nat.le_of_ble_eq_true rfl) dX5_record_23 ⟨by decide, by decide⟩ X.1 0 0 ⟨rfl, rfl⟩ (fun v H locs hv hS_19 => ?_)
      obtain ⟨hv, hw⟩ := hv
      replace X : zX D B0 (zj (layC cA a G S) M) s.heap H locs := ⟨hw, hS_19⟩
      rcases hv with ⟨eb, rfl, he_21, rfl⟩ | ⟨hn_22, rfl⟩
      · refine lv_astore (lv' := [(6, .ref (a 10 eb)), (5, .null), (0, .ref (a 0 0)), (1, .int (i32 (q : Int))), (2, .int (i32 x2)), (3, .int (i32 (eb : Int))), (4, .int (i32 x4))]) E.1 E.2.1 dX5_record_26 hl (by decide) rfl (fun ls hl => ?_)
        refine lv_aloadN E.1 E.2.1 dX5_record_28 (lv_at hl 1 rfl) ?_
        refine lv_ifnullN (tgt := 38) E.1 E.2.1 dX5_record_30 (by decide) ?_
        refine z_iconst E dX5_record_38 ?_
        have ef : fRecord S (q : Int) x2 (eb : Int) x4 = (-1, S) := by
          unfold fRecord
          try unfold fFind
          try simp only [Int.toNat_natCast]
          repeat' split
          all_goals first | rfl | (exfalso; omega)
        exact z_ret E X hQ (⟨(congrArg (fun w => some (Value.int (i32 w.1))) ef).symm, a, G, rfl, by rw [ef]; exact hG, by rw [ef]; exact X.1⟩) dX5_record_39
      · refine lv_astoreN (lv' := [(6, .null), (5, .null), (0, .ref (a 0 0)), (1, .int (i32 (q : Int))), (2, .int (i32 x2)), (3, .int (i32 x3)), (4, .int (i32 x4))]) E.1 E.2.1 dX5_record_26 hl (by decide) rfl (fun ls hl => ?_)
        refine lv_aloadN E.1 E.2.1 dX5_record_28 (lv_at hl 1 rfl) ?_
        refine lv_ifnullN (tgt := 38) E.1 E.2.1 dX5_record_30 (by decide) ?_
        refine z_iconst E dX5_record_38 ?_
        have ef : fRecord S (q : Int) x2 x3 x4 = (-1, S) := by
          unfold fRecord
          try unfold fFind
          try simp only [Int.toNat_natCast]
          repeat' split
          all_goals first | rfl | (exfalso; omega)
        exact z_ret E X hQ (⟨(congrArg (fun w => some (Value.int (i32 w.1))) ef).symm, a, G, rfl, by rw [ef]; exact hG, by rw [ef]; exact X.1⟩) dX5_record_39
  · refine lv_aload_n E.1 E.2.1 dX5_record_7 rfl (lv_at hl 0 rfl) ?_
    refine z_bipush E dX5_record_8 (by decide +kernel) ?_
    refine z_callV (As := [.int (i32 (-12))]) (rest := []) (n := 1) E X (lC_0 M cA a G S) rfl (x_found l D cA B0 M a G S (-12)) gX5_record_X5_found rfl (by decide +kernel) ⟨by decide, by decide⟩ rfl hl.1 rfl (Nat.le_of_ble_eq_true rfl) dX5_record_10 ⟨by decide, by decide⟩ X.1 0 0 ⟨rfl, rfl⟩ (fun v H locs hv hS_23 => ?_)
    obtain ⟨rfl, hw⟩ := hv
    replace X : zX D B0 (zj (layC cA a G (zs S 27 0 (S 27 0 + 1))) M) s.heap H locs := ⟨hw, hS_23⟩
    have ef : fRecord S x1 x2 x3 x4 = (-12, zs S 27 0 (S 27 0 + 1)) := by
      unfold fRecord
      try unfold fFind
      try simp only [Int.toNat_natCast]
      repeat' split
      all_goals first | rfl | (exfalso; omega)
    exact z_ret E X hQ (⟨(congrArg (fun w => some (Value.int (i32 w.1))) ef).symm, a, G, rfl, by rw [ef]; exact CG_27 hG, by rw [ef]; exact X.1⟩) dX5_record_13

theorem CG_8 {S : zS} {G G1 : zG} (h : ∀ k : Nat, k ≠ 8 → G1 k = G k) (hG : CG S G) : CG S G1 := by
  unfold CG at hG ⊢
  rw [h 2 (by decide), h 9 (by decide), h 10 (by decide), h 11 (by decide), h 13 (by decide)]
  exact hG
abbrev rX5_add : Room := { frames := 2, cells := 0, slots := 0, locals := 60 }
set_option maxHeartbeats 4000000 in
set_option maxRecDepth 100000 in
theorem X_add (l : Launch) (D : va_G) (cA : Nat → ClassId) (B0 : Nat) (M : zL) (a : Nat → Nat → Nat) (G : zG) (S : zS) (hI : SI S) (hG : CG S G) (x1 x2 x3 : Int) (hx1 : zr x1) (hx2 : zr x2) (hx3 : zr x3) : zM l yX5_add wsX5_add rX5_add [.ref (a 0 0), .int (i32 x1), .int (i32 x2), .int (i32 x3)] D cA B0 (zW D B0 (zj (layC cA a G S) M)) (fun v H => v = some (.int (i32 (fAdd S x1 x2 x3).1)) ∧ ∃ (a2 : Nat → Nat → Nat) (G2 : zG), a2 0 0 = a 0 0 ∧ CG (fAdd S x1 x2 x3).2 G2 ∧ zW D B0 (zj (layC cA a2 G2 (fAdd S x1 x2 x3).2) M) H) := by
  refine z_met (cc := cX5_add) (maxL := 12) (ret := (some .int)) (by decide) rfl (Nat.le_of_ble_eq_true rfl) ?_
  intro p e s m args below meth c ls Q hQ E hP hB hS hl
  have hl : lv_has ls 12 [(0, .ref (a 0 0)), (1, .int (i32 x1)), (2, .int (i32 x2)), (3, .int (i32 x3))] := hl
  have iX2 : ∀ w ∈ u_ws RX2 TX2 2, w ∈ wsX5_add := by decide +kernel
  have iX5 : ∀ w ∈ u_ws RX5 TX5 11, w ∈ wsX5_add := by decide +kernel
  have X : zX D B0 (zj (layC cA a G S) M) s.heap s.heap [] := ⟨hP, hS⟩
  have hI0 := hI.1
  unfold SI0 at hI0
  obtain ⟨b1, b2, b3, b4, b5, b8, b17, b19, b7⟩ := hI0
  unfold zr at hx1 hx2 hx3
  refine lv_iload_n E.1 E.2.1 dX5_add_0 rfl (lv_at hl 1 rfl) ?_
  refine z_callJ (As := [.int (i32 x1)]) (rest := []) (n := 1) E X (c_noSheet l D cA B0 _ x1 ⟨by omega, by omega⟩) gX5_add_X5_noSheet rfl (by decide +kernel) ⟨by decide, by decide⟩ rfl hl.1 rfl (Nat.le_of_ble_eq_true rfl) dX5_add_1 ⟨by decide, by decide⟩ rfl 0 0 ⟨rfl, rfl⟩ (fun v H locs hv hS_1 => ?_)
  obtain ⟨hH, z_2, rfl, ez_2⟩ := hv
  subst hH
  replace X := X.same hS_1
  refine z_fne E 14 ⟨by omega, by omega⟩ dX5_add_4 (by decide) (fun h4_3 => ?_) (fun h4_3 => ?_)
  · refine lv_aload_n E.1 E.2.1 dX5_add_14 rfl (lv_at hl 0 rfl) ?_
    refine z_bipush E dX5_add_15 (by decide +kernel) ?_
    refine z_callV (As := [.int (i32 (-12))]) (rest := []) (n := 1) E X (lC_0 M cA a G S) rfl (x_found l D cA B0 M a G S (-12)) gX5_add_X5_found rfl (by decide +kernel) ⟨by decide, by decide⟩ rfl hl.1 rfl (Nat.le_of_ble_eq_true rfl) dX5_add_17 ⟨by decide, by decide⟩ X.1 0 0 ⟨rfl, rfl⟩ (fun v H locs hv hS_4 => ?_)
    obtain ⟨rfl, hw⟩ := hv
    replace X : zX D B0 (zj (layC cA a G (zs S 27 0 (S 27 0 + 1))) M) s.heap H locs := ⟨hw, hS_4⟩
    have ef : fAdd S x1 x2 x3 = (-12, zs S 27 0 (S 27 0 + 1)) := by
      unfold fAdd
      try unfold fFind
      try simp only [Int.toNat_natCast]
      repeat' split
      all_goals first | rfl | (exfalso; omega)
    exact z_ret E X hQ (⟨(congrArg (fun w => some (Value.int (i32 w.1))) ef).symm, a, G, rfl, by rw [ef]; exact CG_27 hG, by rw [ef]; exact X.1⟩) dX5_add_20
  · refine lv_iload_n E.1 E.2.1 dX5_add_7 rfl (lv_at hl 2 rfl) ?_
    refine z_callJ (As := [.int (i32 x2)]) (rest := []) (n := 1) E X (c_noSheet l D cA B0 _ x2 ⟨by omega, by omega⟩) gX5_add_X5_noSheet rfl (by decide +kernel) ⟨by decide, by decide⟩ rfl hl.1 rfl (Nat.le_of_ble_eq_true rfl) dX5_add_8 ⟨by decide, by decide⟩ rfl 0 0 ⟨rfl, rfl⟩ (fun v H locs hv hS_5 => ?_)
    obtain ⟨hH, z_6, rfl, ez_6⟩ := hv
    subst hH
    replace X := X.same hS_5
    refine z_feq E 21 ⟨by omega, by omega⟩ dX5_add_11 (by decide) (fun h11_7 => ?_) (fun h11_7 => ?_)
    · obtain ⟨q, rfl⟩ : ∃ q : Nat, x1 = (q : Int) := ⟨x1.toNat, by omega⟩
      obtain ⟨r, rfl⟩ : ∃ r : Nat, x2 = (r : Int) := ⟨x2.toNat, by omega⟩
      have h4 := hI.2.2.2.2.1.1 q (by omega)
      have h4r := hI.2.2.2.2.1.1 r (by omega)
      refine lv_aload_n E.1 E.2.1 dX5_add_21 rfl (lv_at hl 0 rfl) ?_
      refine z_get E X (lC_0 M cA a G S) rfl iX5 4 (by decide) (by decide +kernel) (v := .ref (a 7 0)) rfl dX5_add_22 ?_
      refine lv_iload_n E.1 E.2.1 dX5_add_25 rfl (lv_at hl 1 rfl) ?_
      by_cases hp_8 : 0 ≤ S 23 q
      · refine z_aldS (C := "EchoRow$Sheet") E X 5 (lC_7 M cA a G S) rfl q (by omega) (by omega) (by decide) (if_pos hp_8) dX5_add_26 ?_
        refine lv_astore (lv' := [(4, .ref (a 15 q)), (0, .ref (a 0 0)), (1, .int (i32 (q : Int))), (2, .int (i32 (r : Int))), (3, .int (i32 x3))]) E.1 E.2.1 dX5_add_27 hl (by decide) rfl (fun ls hl => ?_)
        refine lv_aload_n E.1 E.2.1 dX5_add_29 rfl (lv_at hl 1 rfl) ?_
        refine z_get E X (lC_0 M cA a G S) rfl iX5 4 (by decide) (by decide +kernel) (v := .ref (a 7 0)) rfl dX5_add_30 ?_
        refine lv_iload_n E.1 E.2.1 dX5_add_33 rfl (lv_at hl 3 rfl) ?_
        by_cases hp_9 : 0 ≤ S 23 r
        · refine z_aldS (C := "EchoRow$Sheet") E X 5 (lC_7 M cA a G S) rfl r (by omega) (by omega) (by decide) (if_pos hp_9) dX5_add_34 ?_
          refine lv_astore (lv' := [(5, .ref (a 15 r)), (4, .ref (a 15 q)), (0, .ref (a 0 0)), (1, .int (i32 (q : Int))), (2, .int (i32 (r : Int))), (3, .int (i32 x3))]) E.1 E.2.1 dX5_add_35 hl (by decide) rfl (fun ls hl => ?_)
          refine lv_aload E.1 E.2.1 dX5_add_37 (lv_at hl 1 rfl) ?_
          refine lv_ifnull E.1 E.2.1 dX5_add_39 ?_
          refine lv_aload E.1 E.2.1 dX5_add_42 (lv_at hl 0 rfl) ?_
          refine lv_ifnonnull (tgt := 54) E.1 E.2.1 dX5_add_44 (by decide) ?_
          refine lv_aload E.1 E.2.1 dX5_add_54 (lv_at hl 1 rfl) ?_
          refine z_get E X (lC_15 M cA a G S q ⟨by omega, by omega⟩) rfl iX2 1 (by decide) (by decide +kernel) (v := .ref (a 16 q)) rfl dX5_add_56 ?_
          refine z_alen (z := S 23 q) E X 0 (lC_16 M cA a G S q ⟨by omega, by omega⟩) rfl (by omega) dX5_add_59 ?_
          refine lv_aload_n E.1 E.2.1 dX5_add_60 rfl (lv_at hl 2 rfl) ?_
          refine z_get E X (lC_0 M cA a G S) rfl iX5 5 (by decide) (by decide +kernel) (v := .ref (a 8 0)) rfl dX5_add_61 ?_
          refine z_alen (z := 64) E X 0 (lC_8 M cA a G S) rfl (by omega) dX5_add_64 ?_
          refine z_mmin E ⟨by omega, by omega⟩ ⟨by omega, by omega⟩ (by decide +kernel) (by decide +kernel) (by decide +kernel) (by decide +kernel) hl.1 (by decide) (Nat.le_of_ble_eq_true rfl) ⟨by decide, by decide⟩ dX5_add_65 ?_
          refine z_top (S 23 q) (by unfold zmin; split <;> omega) ?_
          refine lv_istore (lv' := [(6, .int (i32 (S 23 q))), (5, .ref (a 15 r)), (4, .ref (a 15 q)), (0, .ref (a 0 0)), (1, .int (i32 (q : Int))), (2, .int (i32 (r : Int))), (3, .int (i32 x3))]) E.1 E.2.1 dX5_add_68 hl (by decide) rfl (fun ls hl => ?_)
          refine lv_aload E.1 E.2.1 dX5_add_70 (lv_at hl 2 rfl) ?_
          refine z_get E X (lC_15 M cA a G S q ⟨by omega, by omega⟩) rfl iX2 1 (by decide) (by decide +kernel) (v := .ref (a 16 q)) rfl dX5_add_72 ?_
          refine z_iconst E dX5_add_75 ?_
          refine lv_aload_n E.1 E.2.1 dX5_add_76 rfl (lv_at hl 3 rfl) ?_
          refine z_get E X (lC_0 M cA a G S) rfl iX5 5 (by decide) (by decide +kernel) (v := .ref (a 8 0)) rfl dX5_add_77 ?_
          refine z_iconst E dX5_add_80 ?_
          refine lv_iload E.1 E.2.1 dX5_add_81 (lv_at hl 0 rfl) ?_
          refine z_copyi E X (by decide +kernel) (by decide +kernel) (by decide +kernel) (by decide +kernel) (lC_16 M cA a G S q ⟨by omega, by omega⟩) (lC_8 M cA a G S) 0 0 ((S 23 q).toNat) (by omega) (by omega) (by omega) (by omega) (by omega) (by omega) (by omega) hl.1 (by decide) (Nat.le_of_ble_eq_true rfl) dX5_add_83 (fun H locs X => ?_)
          obtain ⟨G1, hg8, hg, X⟩ := cw_ahead (x := 0) X
          have hsp : ∀ k : Nat, k < (S 23 q).toNat → G1 8 0 k = S 25 (64 * q + k) := fun k hk => by
            rw [hg]
            unfold zcp
            rw [if_pos (by omega)]
            show S 25 (64 * q + (0 + (k - 0))) = _
            rw [Nat.zero_add, Nat.sub_zero]
          have hG := CG_8 hg8 hG
          refine z_iconst E dX5_add_86 ?_
          refine z_top (adn S r x3 0) (rfl) ?_
          refine lv_istore (lv' := [(7, .int (i32 (adn S r x3 0))), (6, .int (i32 (S 23 q))), (5, .ref (a 15 r)), (4, .ref (a 15 q)), (0, .ref (a 0 0)), (1, .int (i32 (q : Int))), (2, .int (i32 (r : Int))), (3, .int (i32 x3))]) E.1 E.2.1 dX5_add_87 hl (by decide) rfl (fun ls hl => ?_)
          refine z_iconst E dX5_add_89 ?_
          refine z_top (0 : Int) (rfl) ?_
          refine lv_istore (lv' := [(8, .int (i32 (0 : Int))), (7, .int (i32 (adn S r x3 0))), (6, .int (i32 (S 23 q))), (5, .ref (a 15 r)), (4, .ref (a 15 q)), (0, .ref (a 0 0)), (1, .int (i32 (q : Int))), (2, .int (i32 (r : Int))), (3, .int (i32 x3))]) E.1 E.2.1 dX5_add_90 hl (by decide) rfl (fun ls hl => ?_)
          have key92 : ∀ (N : Nat) (k : Nat) (T : zS) (H : Heap) (locs : List Loc) (ls : Array Slot), ((S 23 q).toNat - k) < N → ((k : Int) ≤ S 23 q) → (T = ads S q r x3 k) → zX D B0 (zj (layC cA a G1 T) M) s.heap H locs → lv_has ls 12 [(0, .ref (a 0 0)), (1, .int (i32 (q : Int))), (2, .int (i32 (r : Int))), (3, .int (i32 x3)), (4, .ref (a 15 q)), (5, .ref (a 15 r)), (6, .int (i32 (S 23 q))), (7, .int (i32 (adn S r x3 k))), (8, .int (i32 (k : Int)))] → W p l e rX5_add s m args below meth c H locs 0 0 Q (F0 m 92 ls []) := by
            intro N
            induction N with
            | zero => intros; omega
            | succ N ih92 =>
              intro k T H locs ls hN hk hT X hl
              refine lv_iload E.1 E.2.1 dX5_add_92 (lv_at hl 8 rfl) ?_
              have eT : ∀ k : Nat, k ≠ 25 → T k = S k := fun k hk => by rw [hT]; exact ads_k hk _
              have h64 : ∀ i : Nat, i < 6 → T 23 i ≤ 64 := fun i hi => by rw [eT 23 (by decide)]; exact (hI.2.2.2.2.1.1 i hi).1.2
              have d23 : T 23 r = S 23 r := by rw [eT 23 (by decide)]
              have d24 : T 24 r = S 24 r := by rw [eT 24 (by decide)]
              have hIT : SI T := by rw [hT]; exact SI_25 hI (fun k hk => ads_k hk _) (ads_zr hI.2.2.2.2.1.2 k)
              have han := adn_rng (S := S) (r := r) (sh := x3) k
              refine lv_iload E.1 E.2.1 dX5_add_94 (lv_at hl 6 rfl) ?_
              refine z_cge E 172 ⟨by omega, by omega⟩ ⟨by omega, by omega⟩ dX5_add_96 (by decide) (fun h96_10 => ?_) (fun h96_10 => ?_)
              · refine lv_iload E.1 E.2.1 dX5_add_172 (lv_at hl 7 rfl) ?_
                have ef : fAdd S (q : Int) (r : Int) x3 = (adn S r x3 k, T) := by
                  unfold fAdd
                  simp only [Int.toNat_natCast]
                  rw [if_neg (by omega), if_neg (by omega), show (S 23 q).toNat = k by omega, ← hT]
                exact z_ret E X hQ (⟨(congrArg (fun w => some (Value.int (i32 w.1))) ef).symm, a, G1, rfl, by rw [ef]; exact CG_25 eT hG, by rw [ef]; exact X.1⟩) dX5_add_174
              · refine lv_iload E.1 E.2.1 dX5_add_99 (lv_at hl 8 rfl) ?_
                refine z_i2l E ⟨by omega, by omega⟩ dX5_add_101 ?_
                refine lv_iload_n E.1 E.2.1 dX5_add_102 rfl (lv_at hl 3 rfl) ?_
                refine z_i2l E ⟨by omega, by omega⟩ dX5_add_103 ?_
                refine z_ladd E dX5_add_104 ?_
                refine lv_lstore (lv' := [(9, .long (i64 ((k : Int) + x3))), (0, .ref (a 0 0)), (1, .int (i32 (q : Int))), (2, .int (i32 (r : Int))), (3, .int (i32 x3)), (4, .ref (a 15 q)), (5, .ref (a 15 r)), (6, .int (i32 (S 23 q))), (7, .int (i32 (adn S r x3 k))), (8, .int (i32 (k : Int)))]) E.1 E.2.1 dX5_add_105 hl (by decide) rfl (fun ls hl => ?_)
                refine lv_lload E.1 E.2.1 dX5_add_107 (lv_at hl 0 rfl) ?_
                refine z_lconst (z := 0) E dX5_add_109 (by decide +kernel) ?_
                refine z_lcmp E ⟨by omega, by omega⟩ ⟨by omega, by omega⟩ dX5_add_110 (fun z_11 hrz_11 hlz_11 hez_11 => ?_)
                unfold zr at hrz_11
                refine z_flt E 166 ⟨by omega, by omega⟩ dX5_add_111 (by decide) (fun h111_12 => ?_) (fun h111_12 => ?_)
                · have ea1 : ads S q r x3 (k + 1) = T := by rw [ads_S, if_neg (by omega), ← hT]
                  have en1 : adn S r x3 (k + 1) = adn S r x3 k := by rw [adn_S, if_neg (by omega)]
                  have hl : lv_has ls 12 [(9, .long (i64 ((k : Int) + x3))), (0, .ref (a 0 0)), (1, .int (i32 (q : Int))), (2, .int (i32 (r : Int))), (3, .int (i32 x3)), (4, .ref (a 15 q)), (5, .ref (a 15 r)), (6, .int (i32 (S 23 q))), (7, .int (i32 (adn S r x3 (k + 1)))), (8, .int (i32 (k : Int)))] := by rw [en1]; exact hl
                  refine z_iinc (lv' := [(8, .int (i32 ((k + 1 : Nat) : Int))), (9, .long (i64 ((k : Int) + x3))), (0, .ref (a 0 0)), (1, .int (i32 (q : Int))), (2, .int (i32 (r : Int))), (3, .int (i32 x3)), (4, .ref (a 15 q)), (5, .ref (a 15 r)), (6, .int (i32 (S 23 q))), (7, .int (i32 (adn S r x3 (k + 1))))]) E dX5_add_166 hl (k := 9) rfl (by decide) rfl (fun ls hl => ?_)
                  refine lv_goto (tgt := 92) E.1 E.2.1 dX5_add_169 (by decide) ?_
                  exact ih92 (k + 1) T _ _ _ (by omega) (by omega) ea1.symm X (lv_sub hl [2, 3, 4, 5, 6, 7, 8, 9, 0] rfl)
                · refine lv_lload E.1 E.2.1 dX5_add_114 (lv_at hl 0 rfl) ?_
                  refine lv_aload E.1 E.2.1 dX5_add_116 (lv_at hl 6 rfl) ?_
                  refine z_get E X (lC_15 M cA a G1 T r ⟨by omega, by omega⟩) rfl iX2 1 (by decide) (by decide +kernel) (v := .ref (a 16 r)) rfl dX5_add_118 ?_
                  refine z_alen (z := T 23 r) E X 0 (lC_16 M cA a G1 T r ⟨by omega, by omega⟩) rfl (by omega) dX5_add_121 ?_
                  refine z_top (S 23 r) (d23) ?_
                  refine z_i2l E ⟨by omega, by omega⟩ dX5_add_122 ?_
                  refine z_lcmp E ⟨by omega, by omega⟩ ⟨by omega, by omega⟩ dX5_add_123 (fun z_13 hrz_13 hlz_13 hez_13 => ?_)
                  unfold zr at hrz_13
                  refine z_fge E 166 ⟨by omega, by omega⟩ dX5_add_124 (by decide) (fun h124_14 => ?_) (fun h124_14 => ?_)
                  · have ea1 : ads S q r x3 (k + 1) = T := by rw [ads_S, if_neg (by omega), ← hT]
                    have en1 : adn S r x3 (k + 1) = adn S r x3 k := by rw [adn_S, if_neg (by omega)]
                    have hl : lv_has ls 12 [(9, .long (i64 ((k : Int) + x3))), (0, .ref (a 0 0)), (1, .int (i32 (q : Int))), (2, .int (i32 (r : Int))), (3, .int (i32 x3)), (4, .ref (a 15 q)), (5, .ref (a 15 r)), (6, .int (i32 (S 23 q))), (7, .int (i32 (adn S r x3 (k + 1)))), (8, .int (i32 (k : Int)))] := by rw [en1]; exact hl
                    refine z_iinc (lv' := [(8, .int (i32 ((k + 1 : Nat) : Int))), (9, .long (i64 ((k : Int) + x3))), (0, .ref (a 0 0)), (1, .int (i32 (q : Int))), (2, .int (i32 (r : Int))), (3, .int (i32 x3)), (4, .ref (a 15 q)), (5, .ref (a 15 r)), (6, .int (i32 (S 23 q))), (7, .int (i32 (adn S r x3 (k + 1))))]) E dX5_add_166 hl (k := 9) rfl (by decide) rfl (fun ls hl => ?_)
                    refine lv_goto (tgt := 92) E.1 E.2.1 dX5_add_169 (by decide) ?_
                    exact ih92 (k + 1) T _ _ _ (by omega) (by omega) ea1.symm X (lv_sub hl [2, 3, 4, 5, 6, 7, 8, 9, 0] rfl)
                  · refine lv_lload E.1 E.2.1 dX5_add_127 (lv_at hl 0 rfl) ?_
                    refine z_l2i E dX5_add_129 ?_
                    refine z_top ((((k : Int) + x3).toNat : Nat) : Int) (by omega) ?_
                    refine lv_istore (lv' := [(11, .int (i32 ((((k : Int) + x3).toNat : Nat) : Int))), (9, .long (i64 ((k : Int) + x3))), (0, .ref (a 0 0)), (1, .int (i32 (q : Int))), (2, .int (i32 (r : Int))), (3, .int (i32 x3)), (4, .ref (a 15 q)), (5, .ref (a 15 r)), (6, .int (i32 (S 23 q))), (7, .int (i32 (adn S r x3 k))), (8, .int (i32 (k : Int)))]) E.1 E.2.1 dX5_add_130 hl (by decide) rfl (fun ls hl => ?_)
                    refine lv_aload E.1 E.2.1 dX5_add_132 (lv_at hl 7 rfl) ?_
                    refine z_get E X (lC_15 M cA a G1 T r ⟨by omega, by omega⟩) rfl iX2 1 (by decide) (by decide +kernel) (v := .ref (a 16 r)) rfl dX5_add_134 ?_
                    refine lv_iload E.1 E.2.1 dX5_add_137 (lv_at hl 0 rfl) ?_
                    refine lv_aload E.1 E.2.1 dX5_add_139 (lv_at hl 7 rfl) ?_
                    refine lv_aload E.1 E.2.1 dX5_add_141 (lv_at hl 7 rfl) ?_
                    refine z_get E X (lC_15 M cA a G1 T r ⟨by omega, by omega⟩) rfl iX2 1 (by decide) (by decide +kernel) (v := .ref (a 16 r)) rfl dX5_add_143 ?_
                    refine lv_iload E.1 E.2.1 dX5_add_146 (lv_at hl 0 rfl) ?_
                    refine z_iald E X (lC_16 M cA a G1 T r ⟨by omega, by omega⟩) (((k : Int) + x3).toNat) (by omega) (by omega) (by omega) dX5_add_148 ?_
                    refine z_top (T 25 (64 * r + ((k : Int) + x3).toNat)) (rfl) ?_
                    have hz1 := hIT.2.2.2.2.1.2 (64 * r + ((k : Int) + x3).toNat)
                    unfold zr at hz1
                    refine z_i2l E ⟨by omega, by omega⟩ dX5_add_149 ?_
                    refine lv_aload_n E.1 E.2.1 dX5_add_150 rfl (lv_at hl 2 rfl) ?_
                    refine z_get E X (lC_0 M cA a G1 T) rfl iX5 5 (by decide) (by decide +kernel) (v := .ref (a 8 0)) rfl dX5_add_151 ?_
                    refine lv_iload E.1 E.2.1 dX5_add_154 (lv_at hl 10 rfl) ?_
                    refine z_iald E X (lC_8 M cA a G1 T) k (by omega) (by omega) (by decide) dX5_add_156 ?_
                    refine z_top (S 25 (64 * q + k)) (hsp k (by omega)) ?_
                    have hz2 := hI.2.2.2.2.1.2 (64 * q + k)
                    unfold zr at hz2
                    refine z_i2l E ⟨by omega, by omega⟩ dX5_add_157 ?_
                    refine z_ladd E dX5_add_158 ?_
                    refine z_callV (As := [.long (i64 ((T 25 (64 * r + ((k : Int) + x3).toNat)) + (S 25 (64 * q + k))))]) (rest := [.int (i32 ((((k : Int) + x3).toNat : Nat) : Int)), .ref (a 16 r)]) (n := 1) E X (lC_15 M cA a G1 T r ⟨by omega, by omega⟩) rfl (x_nearestTo l D cA B0 M a G1 T hIT r ((T 25 (64 * r + ((k : Int) + x3).toNat)) + (S 25 (64 * q + k))) ⟨by omega, by omega⟩ (by omega)) gX5_add_X2_nearestTo rfl (by decide +kernel) ⟨by decide, by decide⟩ rfl hl.1 rfl (Nat.le_of_ble_eq_true rfl) dX5_add_159 ⟨by decide, by decide⟩ X.1 0 0 ⟨rfl, rfl⟩ (fun v H locs hv hS_15 => ?_)
                    obtain ⟨rfl, hw⟩ := hv
                    replace X : zX D B0 (zj (layC cA a G1 T) M) s.heap H locs := ⟨hw, hS_15⟩
                    refine z_top (AS (S 24 r) (T 25 (64 * r + ((k : Int) + x3).toNat) + S 25 (64 * q + k))) (by rw [d24]) ?_
                    refine z_iast E X (lC_16 M cA a G1 T r ⟨by omega, by omega⟩) (((k : Int) + x3).toNat) (by omega) (by omega) (by omega) dX5_add_162 (fun H locs X => ?_)
                    have X := cw_numbers ⟨by omega, by omega⟩ (by omega) h64 X
                    refine z_iinc (lv' := [(7, .int (i32 ((adn S r x3 k) + 1))), (11, .int (i32 ((((k : Int) + x3).toNat : Nat) : Int))), (9, .long (i64 ((k : Int) + x3))), (0, .ref (a 0 0)), (1, .int (i32 (q : Int))), (2, .int (i32 (r : Int))), (3, .int (i32 x3)), (4, .ref (a 15 q)), (5, .ref (a 15 r)), (6, .int (i32 (S 23 q))), (8, .int (i32 (k : Int)))]) E dX5_add_163 hl (k := 9) rfl (by decide) rfl (fun ls hl => ?_)
                    have ea1 : ads S q r x3 (k + 1) = zs T 25 (64 * r + (((k : Int) + x3).toNat)) (AS (S 24 r) (T 25 (64 * r + ((k : Int) + x3).toNat) + S 25 (64 * q + k))) := by rw [ads_S, if_pos (by omega), ← hT]
                    have en1 : adn S r x3 (k + 1) = (adn S r x3 k) + 1 := by rw [adn_S, if_pos (by omega)]
                    have hl : lv_has ls 12 [(7, .int (i32 (adn S r x3 (k + 1)))), (11, .int (i32 ((((k : Int) + x3).toNat : Nat) : Int))), (9, .long (i64 ((k : Int) + x3))), (0, .ref (a 0 0)), (1, .int (i32 (q : Int))), (2, .int (i32 (r : Int))), (3, .int (i32 x3)), (4, .ref (a 15 q)), (5, .ref (a 15 r)), (6, .int (i32 (S 23 q))), (8, .int (i32 (k : Int)))] := by rw [en1]; exact hl
                    refine z_iinc (lv' := [(8, .int (i32 ((k + 1 : Nat) : Int))), (7, .int (i32 (adn S r x3 (k + 1)))), (11, .int (i32 ((((k : Int) + x3).toNat : Nat) : Int))), (9, .long (i64 ((k : Int) + x3))), (0, .ref (a 0 0)), (1, .int (i32 (q : Int))), (2, .int (i32 (r : Int))), (3, .int (i32 x3)), (4, .ref (a 15 q)), (5, .ref (a 15 r)), (6, .int (i32 (S 23 q)))]) E dX5_add_166 hl (k := 10) rfl (by decide) rfl (fun ls hl => ?_)
                    refine lv_goto (tgt := 92) E.1 E.2.1 dX5_add_169 (by decide) ?_
                    exact ih92 (k + 1) (zs T 25 (64 * r + (((k : Int) + x3).toNat)) (AS (S 24 r) (T 25 (64 * r + ((k : Int) + x3).toNat) + S 25 (64 * q + k)))) _ _ _ (by omega) (by omega) ea1.symm X (lv_sub hl [4, 5, 6, 7, 8, 9, 10, 1, 0] rfl)
          exact key92 (((S 23 q).toNat - 0) + 1) 0 S _ _ _ (by omega) (by omega) rfl X (lv_sub hl [5, 6, 7, 8, 4, 3, 2, 1, 0] rfl)
        · refine z_aldN (C := "EchoRow$Sheet") E X 5 (lC_7 M cA a G S) rfl r (by omega) (by omega) (by decide) (if_neg hp_9) dX5_add_34 ?_
          refine lv_astoreN (lv' := [(5, .null), (4, .ref (a 15 q)), (0, .ref (a 0 0)), (1, .int (i32 (q : Int))), (2, .int (i32 (r : Int))), (3, .int (i32 x3))]) E.1 E.2.1 dX5_add_35 hl (by decide) rfl (fun ls hl => ?_)
          refine lv_aload E.1 E.2.1 dX5_add_37 (lv_at hl 1 rfl) ?_
          refine lv_ifnull E.1 E.2.1 dX5_add_39 ?_
          refine lv_aloadN E.1 E.2.1 dX5_add_42 (lv_at hl 0 rfl) ?_
          refine lv_ifnonnullN E.1 E.2.1 dX5_add_44 ?_
          refine lv_aload_n E.1 E.2.1 dX5_add_47 rfl (lv_at hl 2 rfl) ?_
          refine z_bipush E dX5_add_48 (by decide +kernel) ?_
          refine z_callV (As := [.int (i32 (-11))]) (rest := []) (n := 1) E X (lC_0 M cA a G S) rfl (x_found l D cA B0 M a G S (-11)) gX5_add_X5_found rfl (by decide +kernel) ⟨by decide, by decide⟩ rfl hl.1 rfl (Nat.le_of_ble_eq_true rfl) dX5_add_50 ⟨by decide, by decide⟩ X.1 0 0 ⟨rfl, rfl⟩ (fun v H locs hv hS_16 => ?_)
          obtain ⟨rfl, hw⟩ := hv
          replace X : zX D B0 (zj (layC cA a G (zs S 27 0 (S 27 0 + 1))) M) s.heap H locs := ⟨hw, hS_16⟩
          have ef : fAdd S (q : Int) (r : Int) x3 = (-11, zs S 27 0 (S 27 0 + 1)) := by
            unfold fAdd
            try unfold fFind
            try simp only [Int.toNat_natCast]
            repeat' split
            all_goals first | rfl | (exfalso; omega)
          exact z_ret E X hQ (⟨(congrArg (fun w => some (Value.int (i32 w.1))) ef).symm, a, G, rfl, by rw [ef]; exact CG_27 hG, by rw [ef]; exact X.1⟩) dX5_add_53
      · refine z_aldN (C := "EchoRow$Sheet") E X 5 (lC_7 M cA a G S) rfl q (by omega) (by omega) (by decide) (if_neg hp_8) dX5_add_26 ?_
        refine lv_astoreN (lv' := [(4, .null), (0, .ref (a 0 0)), (1, .int (i32 (q : Int))), (2, .int (i32 (r : Int))), (3, .int (i32 x3))]) E.1 E.2.1 dX5_add_27 hl (by decide) rfl (fun ls hl => ?_)
        refine lv_aload_n E.1 E.2.1 dX5_add_29 rfl (lv_at hl 1 rfl) ?_
        refine z_get E X (lC_0 M cA a G S) rfl iX5 4 (by decide) (by decide +kernel) (v := .ref (a 7 0)) rfl dX5_add_30 ?_
        refine lv_iload_n E.1 E.2.1 dX5_add_33 rfl (lv_at hl 3 rfl) ?_
        by_cases hp_17 : 0 ≤ S 23 r
        · refine z_aldS (C := "EchoRow$Sheet") E X 5 (lC_7 M cA a G S) rfl r (by omega) (by omega) (by decide) (if_pos hp_17) dX5_add_34 ?_
          refine lv_astore (lv' := [(5, .ref (a 15 r)), (4, .null), (0, .ref (a 0 0)), (1, .int (i32 (q : Int))), (2, .int (i32 (r : Int))), (3, .int (i32 x3))]) E.1 E.2.1 dX5_add_35 hl (by decide) rfl (fun ls hl => ?_)
          refine lv_aloadN E.1 E.2.1 dX5_add_37 (lv_at hl 1 rfl) ?_
          refine lv_ifnullN (tgt := 47) E.1 E.2.1 dX5_add_39 (by decide) ?_
          refine lv_aload_n E.1 E.2.1 dX5_add_47 rfl (lv_at hl 2 rfl) ?_
          refine z_bipush E dX5_add_48 (by decide +kernel) ?_
          refine z_callV (As := [.int (i32 (-11))]) (rest := []) (n := 1) E X (lC_0 M cA a G S) rfl (x_found l D cA B0 M a G S (-11)) gX5_add_X5_found rfl (by decide +kernel) ⟨by decide, by decide⟩ rfl hl.1 rfl (Nat.le_of_ble_eq_true rfl) dX5_add_50 ⟨by decide, by decide⟩ X.1 0 0 ⟨rfl, rfl⟩ (fun v H locs hv hS_18 => ?_)
          obtain ⟨rfl, hw⟩ := hv
          replace X : zX D B0 (zj (layC cA a G (zs S 27 0 (S 27 0 + 1))) M) s.heap H locs := ⟨hw, hS_18⟩
          have ef : fAdd S (q : Int) (r : Int) x3 = (-11, zs S 27 0 (S 27 0 + 1)) := by
            unfold fAdd
            try unfold fFind
            try simp only [Int.toNat_natCast]
            repeat' split
            all_goals first | rfl | (exfalso; omega)
          exact z_ret E X hQ (⟨(congrArg (fun w => some (Value.int (i32 w.1))) ef).symm, a, G, rfl, by rw [ef]; exact CG_27 hG, by rw [ef]; exact X.1⟩) dX5_add_53
        · refine z_aldN (C := "EchoRow$Sheet") E X 5 (lC_7 M cA a G S) rfl r (by omega) (by omega) (by decide) (if_neg hp_17) dX5_add_34 ?_
          refine lv_astoreN (lv' := [(5, .null), (4, .null), (0, .ref (a 0 0)), (1, .int (i32 (q : Int))), (2, .int (i32 (r : Int))), (3, .int (i32 x3))]) E.1 E.2.1 dX5_add_35 hl (by decide) rfl (fun ls hl => ?_)
          refine lv_aloadN E.1 E.2.1 dX5_add_37 (lv_at hl 1 rfl) ?_
          refine lv_ifnullN (tgt := 47) E.1 E.2.1 dX5_add_39 (by decide) ?_
          refine lv_aload_n E.1 E.2.1 dX5_add_47 rfl (lv_at hl 2 rfl) ?_
          refine z_bipush E dX5_add_48 (by decide +kernel) ?_
          refine z_callV (As := [.int (i32 (-11))]) (rest := []) (n := 1) E X (lC_0 M cA a G S) rfl (x_found l D cA B0 M a G S (-11)) gX5_add_X5_found rfl (by decide +kernel) ⟨by decide, by decide⟩ rfl hl.1 rfl (Nat.le_of_ble_eq_true rfl) dX5_add_50 ⟨by decide, by decide⟩ X.1 0 0 ⟨rfl, rfl⟩ (fun v H locs hv hS_19 => ?_)
          obtain ⟨rfl, hw⟩ := hv
          replace X : zX D B0 (zj (layC cA a G (zs S 27 0 (S 27 0 + 1))) M) s.heap H locs := ⟨hw, hS_19⟩
          have ef : fAdd S (q : Int) (r : Int) x3 = (-11, zs S 27 0 (S 27 0 + 1)) := by
            unfold fAdd
            try unfold fFind
            try simp only [Int.toNat_natCast]
            repeat' split
            all_goals first | rfl | (exfalso; omega)
          exact z_ret E X hQ (⟨(congrArg (fun w => some (Value.int (i32 w.1))) ef).symm, a, G, rfl, by rw [ef]; exact CG_27 hG, by rw [ef]; exact X.1⟩) dX5_add_53
    · refine lv_aload_n E.1 E.2.1 dX5_add_14 rfl (lv_at hl 0 rfl) ?_
      refine z_bipush E dX5_add_15 (by decide +kernel) ?_
      refine z_callV (As := [.int (i32 (-12))]) (rest := []) (n := 1) E X (lC_0 M cA a G S) rfl (x_found l D cA B0 M a G S (-12)) gX5_add_X5_found rfl (by decide +kernel) ⟨by decide, by decide⟩ rfl hl.1 rfl (Nat.le_of_ble_eq_true rfl) dX5_add_17 ⟨by decide, by decide⟩ X.1 0 0 ⟨rfl, rfl⟩ (fun v H locs hv hS_20 => ?_)
      obtain ⟨rfl, hw⟩ := hv
      replace X : zX D B0 (zj (layC cA a G (zs S 27 0 (S 27 0 + 1))) M) s.heap H locs := ⟨hw, hS_20⟩
      have ef : fAdd S x1 x2 x3 = (-12, zs S 27 0 (S 27 0 + 1)) := by
        unfold fAdd
        try unfold fFind
        try simp only [Int.toNat_natCast]
        repeat' split
        all_goals first | rfl | (exfalso; omega)
      exact z_ret E X hQ (⟨(congrArg (fun w => some (Value.int (i32 w.1))) ef).symm, a, G, rfl, by rw [ef]; exact CG_27 hG, by rw [ef]; exact X.1⟩) dX5_add_20

theorem cps_25 {S : zS} {q i r j : Nat} : ∀ (n m : Nat), cps S q i r j n 25 m = if 64 * r + j ≤ m ∧ m < 64 * r + j + n then S 25 (64 * q + i + (m - (64 * r + j))) else S 25 m := by
  intro n
  induction n with
  | zero =>
    intro m
    rw [if_neg (by omega)]
    rfl
  | succ n ih =>
    intro m
    unfold cps
    rw [zs_eq]
    by_cases h : m = 64 * r + j + n
    · subst h
      rw [zg_eq, if_pos (by omega), Nat.add_sub_cancel_left]
    · rw [zg_ne h, ih m]
      by_cases h2 : 64 * r + j ≤ m ∧ m < 64 * r + j + n
      · rw [if_pos h2, if_pos (by omega)]
      · rw [if_neg h2, if_neg (by omega)]
theorem cw_copy {D : va_G} {B0 : Nat} {M : zL} {cA : Nat → ClassId} {a : Nat → Nat → Nat} {G : zG} {S : zS} {H0 H : Heap} {locs : List Loc} {q i0 r j0 nn : Nat} (hr : r < 6 ∧ 0 ≤ S 23 r) (hj : ((j0 + nn : Nat) : Int) ≤ S 23 r) (h64 : ∀ i : Nat, i < 6 → S 23 i ≤ 64) (X : zX D B0 (zu (zj (layC cA a G S) M) 16 r (some (kI cA (a 16 r) (S 23 r).toNat (zcp (fun j => S 25 (64 * q + j)) (fun j => S 25 (64 * r + j)) i0 j0 nn)))) H0 H locs) : zX D B0 (zj (layC cA a G (cps S q i0 r j0 nn)) M) H0 H locs := by
  have e25 : ∀ m, cps S q i0 r j0 nn 25 m = if 64 * r + j0 ≤ m ∧ m < 64 * r + j0 + nn then S 25 (64 * q + i0 + (m - (64 * r + j0))) else S 25 m := fun m => cps_25 nn m
  have eo : ∀ k, k ≠ 25 → cps S q i0 r j0 nn k = S k := fun k hk => cps_k hk nn
  generalize cps S q i0 r j0 nn = T at e25 eo ⊢
  have hr64 := h64 r hr.1
  refine X.via (fun k i y hy => ?_)
  by_cases h16 : k = 16
  · subst h16
    have hy : (if i < 6 ∧ 0 ≤ T 23 i then some (kI cA (a 16 i) (T 23 i).toNat (fun j => T 25 (64 * i + j))) else none) = some y := hy
    rw [eo 23 (by decide)] at hy
    by_cases hc : i < 6 ∧ 0 ≤ S 23 i
    · rw [if_pos hc] at hy
      cases hy
      have hi64 := h64 i hc.1
      by_cases hi : i = r
      · subst hi
        refine ⟨_, zu_self _ _ _ _, rfl, fun hv => zI_at (fun j hj2 => ?_) hv⟩
        rw [e25]
        unfold zcp
        by_cases hz : j0 ≤ j ∧ j < j0 + nn
        · rw [if_pos hz, if_pos (by omega)]
          show S 25 (64 * q + (i0 + (j - j0))) = _
          rw [show 64 * q + (i0 + (j - j0)) = 64 * q + i0 + (64 * i + j - (64 * i + j0)) by omega]
        · rw [if_neg hz, if_neg (by omega)]
      · refine ⟨_, (zu_ne (by omega)).trans (lC_16 M cA a G S i hc), rfl, fun hv => zI_at (fun j hj2 => ?_) hv⟩
        rw [e25, if_neg (by omega)]
    · rw [if_neg hc] at hy
      cases hy
  · refine ⟨y, ?_, rfl, fun h => h⟩
    rw [zu_ne (fun h => h16 h.1), ← hy]
    refine zj_C ?_
    unfold layC
    split
    all_goals first | (exfalso; omega) | skip
    all_goals (try simp only [cfs, yfs, efs, tfs, ofs, sfs, eo 1 (by decide), eo 2 (by decide), eo 4 (by decide), eo 5 (by decide), eo 6 (by decide), eo 7 (by decide), eo 8 (by decide), eo 9 (by decide), eo 10 (by decide), eo 11 (by decide), eo 12 (by decide), eo 13 (by decide), eo 17 (by decide), eo 19 (by decide), eo 20 (by decide), eo 21 (by decide), eo 22 (by decide), eo 23 (by decide), eo 24 (by decide), eo 27 (by decide)])
    all_goals first | rfl | (rw [if_neg (by omega), if_neg (by omega)])
abbrev rX5_copy : Room := { frames := 2, cells := 0, slots := 0, locals := 60 }
set_option maxHeartbeats 4000000 in
set_option maxRecDepth 100000 in
theorem X_copy (l : Launch) (D : va_G) (cA : Nat → ClassId) (B0 : Nat) (M : zL) (a : Nat → Nat → Nat) (G : zG) (S : zS) (hI : SI S) (hG : CG S G) (x1 x2 x3 x4 x5 : Int) (hx1 : zr x1) (hx2 : zr x2) (hx3 : zr x3) (hx4 : zr x4) (hx5 : zr x5) : zM l yX5_copy wsX5_copy rX5_copy [.ref (a 0 0), .int (i32 x1), .int (i32 x2), .int (i32 x3), .int (i32 x4), .int (i32 x5)] D cA B0 (zW D B0 (zj (layC cA a G S) M)) (fun v H => v = some (.int (i32 (fCopy S x1 x2 x3 x4 x5).1)) ∧ ∃ (a2 : Nat → Nat → Nat) (G2 : zG), a2 0 0 = a 0 0 ∧ CG (fCopy S x1 x2 x3 x4 x5).2 G2 ∧ zW D B0 (zj (layC cA a2 G2 (fCopy S x1 x2 x3 x4 x5).2) M) H) := by
  refine z_met (cc := cX5_copy) (maxL := 8) (ret := (some .int)) (by decide) rfl (Nat.le_of_ble_eq_true rfl) ?_
  intro p e s m args below meth c ls Q hQ E hP hB hS hl
  have hl : lv_has ls 8 [(0, .ref (a 0 0)), (1, .int (i32 x1)), (2, .int (i32 x2)), (3, .int (i32 x3)), (4, .int (i32 x4)), (5, .int (i32 x5))] := hl
  have iX2 : ∀ w ∈ u_ws RX2 TX2 2, w ∈ wsX5_copy := by decide +kernel
  have iX5 : ∀ w ∈ u_ws RX5 TX5 11, w ∈ wsX5_copy := by decide +kernel
  have X : zX D B0 (zj (layC cA a G S) M) s.heap s.heap [] := ⟨hP, hS⟩
  have hI0 := hI.1
  unfold SI0 at hI0
  obtain ⟨b1, b2, b3, b4, b5, b8, b17, b19, b7⟩ := hI0
  unfold zr at hx1 hx2 hx3 hx4 hx5
  refine lv_iload_n E.1 E.2.1 dX5_copy_0 rfl (lv_at hl 1 rfl) ?_
  refine z_callJ (As := [.int (i32 x1)]) (rest := []) (n := 1) E X (c_noSheet l D cA B0 _ x1 ⟨by omega, by omega⟩) gX5_copy_X5_noSheet rfl (by decide +kernel) ⟨by decide, by decide⟩ rfl hl.1 rfl (Nat.le_of_ble_eq_true rfl) dX5_copy_1 ⟨by decide, by decide⟩ rfl 0 0 ⟨rfl, rfl⟩ (fun v H locs hv hS_1 => ?_)
  obtain ⟨hH, z_2, rfl, ez_2⟩ := hv
  subst hH
  replace X := X.same hS_1
  refine z_fne E 14 ⟨by omega, by omega⟩ dX5_copy_4 (by decide) (fun h4_3 => ?_) (fun h4_3 => ?_)
  · refine lv_aload_n E.1 E.2.1 dX5_copy_14 rfl (lv_at hl 0 rfl) ?_
    refine z_bipush E dX5_copy_15 (by decide +kernel) ?_
    refine z_callV (As := [.int (i32 (-12))]) (rest := []) (n := 1) E X (lC_0 M cA a G S) rfl (x_found l D cA B0 M a G S (-12)) gX5_copy_X5_found rfl (by decide +kernel) ⟨by decide, by decide⟩ rfl hl.1 rfl (Nat.le_of_ble_eq_true rfl) dX5_copy_17 ⟨by decide, by decide⟩ X.1 0 0 ⟨rfl, rfl⟩ (fun v H locs hv hS_4 => ?_)
    obtain ⟨rfl, hw⟩ := hv
    replace X : zX D B0 (zj (layC cA a G (zs S 27 0 (S 27 0 + 1))) M) s.heap H locs := ⟨hw, hS_4⟩
    have ef : fCopy S x1 x2 x3 x4 x5 = (-12, zs S 27 0 (S 27 0 + 1)) := by
      unfold fCopy
      try unfold fFind
      try simp only [Int.toNat_natCast]
      repeat' split
      all_goals first | rfl | (exfalso; omega)
    exact z_ret E X hQ (⟨(congrArg (fun w => some (Value.int (i32 w.1))) ef).symm, a, G, rfl, by rw [ef]; exact CG_27 hG, by rw [ef]; exact X.1⟩) dX5_copy_20
  · refine lv_iload_n E.1 E.2.1 dX5_copy_7 rfl (lv_at hl 3 rfl) ?_
    refine z_callJ (As := [.int (i32 x3)]) (rest := []) (n := 1) E X (c_noSheet l D cA B0 _ x3 ⟨by omega, by omega⟩) gX5_copy_X5_noSheet rfl (by decide +kernel) ⟨by decide, by decide⟩ rfl hl.1 rfl (Nat.le_of_ble_eq_true rfl) dX5_copy_8 ⟨by decide, by decide⟩ rfl 0 0 ⟨rfl, rfl⟩ (fun v H locs hv hS_5 => ?_)
    obtain ⟨hH, z_6, rfl, ez_6⟩ := hv
    subst hH
    replace X := X.same hS_5
    refine z_feq E 21 ⟨by omega, by omega⟩ dX5_copy_11 (by decide) (fun h11_7 => ?_) (fun h11_7 => ?_)
    · obtain ⟨q, rfl⟩ : ∃ q : Nat, x1 = (q : Int) := ⟨x1.toNat, by omega⟩
      obtain ⟨r, rfl⟩ : ∃ r : Nat, x3 = (r : Int) := ⟨x3.toNat, by omega⟩
      have h4 := hI.2.2.2.2.1.1 q (by omega)
      have h4r := hI.2.2.2.2.1.1 r (by omega)
      refine lv_aload_n E.1 E.2.1 dX5_copy_21 rfl (lv_at hl 0 rfl) ?_
      refine z_get E X (lC_0 M cA a G S) rfl iX5 4 (by decide) (by decide +kernel) (v := .ref (a 7 0)) rfl dX5_copy_22 ?_
      refine lv_iload_n E.1 E.2.1 dX5_copy_25 rfl (lv_at hl 1 rfl) ?_
      by_cases hp_8 : 0 ≤ S 23 q
      · refine z_aldS (C := "EchoRow$Sheet") E X 5 (lC_7 M cA a G S) rfl q (by omega) (by omega) (by decide) (if_pos hp_8) dX5_copy_26 ?_
        refine lv_astore (lv' := [(6, .ref (a 15 q)), (0, .ref (a 0 0)), (1, .int (i32 (q : Int))), (2, .int (i32 x2)), (3, .int (i32 (r : Int))), (4, .int (i32 x4)), (5, .int (i32 x5))]) E.1 E.2.1 dX5_copy_27 hl (by decide) rfl (fun ls hl => ?_)
        refine lv_aload_n E.1 E.2.1 dX5_copy_29 rfl (lv_at hl 1 rfl) ?_
        refine z_get E X (lC_0 M cA a G S) rfl iX5 4 (by decide) (by decide +kernel) (v := .ref (a 7 0)) rfl dX5_copy_30 ?_
        refine lv_iload_n E.1 E.2.1 dX5_copy_33 rfl (lv_at hl 4 rfl) ?_
        by_cases hp_9 : 0 ≤ S 23 r
        · refine z_aldS (C := "EchoRow$Sheet") E X 5 (lC_7 M cA a G S) rfl r (by omega) (by omega) (by decide) (if_pos hp_9) dX5_copy_34 ?_
          refine lv_astore (lv' := [(7, .ref (a 15 r)), (6, .ref (a 15 q)), (0, .ref (a 0 0)), (1, .int (i32 (q : Int))), (2, .int (i32 x2)), (3, .int (i32 (r : Int))), (4, .int (i32 x4)), (5, .int (i32 x5))]) E.1 E.2.1 dX5_copy_35 hl (by decide) rfl (fun ls hl => ?_)
          refine lv_aload E.1 E.2.1 dX5_copy_37 (lv_at hl 1 rfl) ?_
          refine lv_ifnull E.1 E.2.1 dX5_copy_39 ?_
          refine lv_aload E.1 E.2.1 dX5_copy_42 (lv_at hl 0 rfl) ?_
          refine lv_ifnonnull (tgt := 54) E.1 E.2.1 dX5_copy_44 (by decide) ?_
          refine lv_aload E.1 E.2.1 dX5_copy_54 (lv_at hl 1 rfl) ?_
          refine z_get E X (lC_15 M cA a G S q ⟨by omega, by omega⟩) rfl iX2 0 (by decide) (by decide +kernel) (v := .int (i32 (S 24 q))) rfl dX5_copy_56 ?_
          refine lv_aload E.1 E.2.1 dX5_copy_59 (lv_at hl 0 rfl) ?_
          refine z_get E X (lC_15 M cA a G S r ⟨by omega, by omega⟩) rfl iX2 0 (by decide) (by decide +kernel) (v := .int (i32 (S 24 r))) rfl dX5_copy_61 ?_
          refine z_ceq E 74 ⟨by omega, by omega⟩ ⟨by omega, by omega⟩ dX5_copy_64 (by decide) (fun h64_10 => ?_) (fun h64_10 => ?_)
          · refine lv_iload E.1 E.2.1 dX5_copy_74 (lv_at hl 7 rfl) ?_
            refine z_fge E 86 ⟨by omega, by omega⟩ dX5_copy_76 (by decide) (fun h76_11 => ?_) (fun h76_11 => ?_)
            · refine lv_aload E.1 E.2.1 dX5_copy_86 (lv_at hl 1 rfl) ?_
              refine lv_iload_n E.1 E.2.1 dX5_copy_88 rfl (lv_at hl 4 rfl) ?_
              refine lv_iload E.1 E.2.1 dX5_copy_89 (lv_at hl 7 rfl) ?_
              refine z_callV (As := [.int (i32 x2), .int (i32 x5)]) (rest := []) (n := 2) E X (lC_15 M cA a G S q ⟨by omega, by omega⟩) rfl (x_hasRun l D cA B0 M a G S hI q x2 x5 ⟨by omega, by omega⟩ ⟨by omega, by omega⟩ ⟨by omega, by omega⟩) gX5_copy_X2_hasRun rfl (by decide +kernel) ⟨by decide, by decide⟩ rfl hl.1 rfl (Nat.le_of_ble_eq_true rfl) dX5_copy_91 ⟨by decide, by decide⟩ X.1 0 0 ⟨rfl, rfl⟩ (fun v H locs hv hS_12 => ?_)
              obtain ⟨⟨z_13, rfl, ez_13⟩, hw⟩ := hv
              replace X : zX D B0 (zj (layC cA a G S) M) s.heap H locs := ⟨hw, hS_12⟩
              refine z_feq E 109 ⟨by omega, by omega⟩ dX5_copy_94 (by decide) (fun h94_14 => ?_) (fun h94_14 => ?_)
              · refine lv_aload_n E.1 E.2.1 dX5_copy_109 rfl (lv_at hl 2 rfl) ?_
                refine z_bipush E dX5_copy_110 (by decide +kernel) ?_
                refine z_callV (As := [.int (i32 (-12))]) (rest := []) (n := 1) E X (lC_0 M cA a G S) rfl (x_found l D cA B0 M a G S (-12)) gX5_copy_X5_found rfl (by decide +kernel) ⟨by decide, by decide⟩ rfl hl.1 rfl (Nat.le_of_ble_eq_true rfl) dX5_copy_112 ⟨by decide, by decide⟩ X.1 0 0 ⟨rfl, rfl⟩ (fun v H locs hv hS_15 => ?_)
                obtain ⟨rfl, hw⟩ := hv
                replace X : zX D B0 (zj (layC cA a G (zs S 27 0 (S 27 0 + 1))) M) s.heap H locs := ⟨hw, hS_15⟩
                have ef : fCopy S (q : Int) x2 (r : Int) x4 x5 = (-12, zs S 27 0 (S 27 0 + 1)) := by
                  unfold fCopy
                  try unfold fFind
                  try simp only [Int.toNat_natCast]
                  repeat' split
                  all_goals first | rfl | (exfalso; omega)
                exact z_ret E X hQ (⟨(congrArg (fun w => some (Value.int (i32 w.1))) ef).symm, a, G, rfl, by rw [ef]; exact CG_27 hG, by rw [ef]; exact X.1⟩) dX5_copy_115
              · refine lv_aload E.1 E.2.1 dX5_copy_97 (lv_at hl 0 rfl) ?_
                refine lv_iload E.1 E.2.1 dX5_copy_99 (lv_at hl 6 rfl) ?_
                refine lv_iload E.1 E.2.1 dX5_copy_101 (lv_at hl 7 rfl) ?_
                refine z_callV (As := [.int (i32 x4), .int (i32 x5)]) (rest := []) (n := 2) E X (lC_15 M cA a G S r ⟨by omega, by omega⟩) rfl (x_hasRun l D cA B0 M a G S hI r x4 x5 ⟨by omega, by omega⟩ ⟨by omega, by omega⟩ ⟨by omega, by omega⟩) gX5_copy_X2_hasRun rfl (by decide +kernel) ⟨by decide, by decide⟩ rfl hl.1 rfl (Nat.le_of_ble_eq_true rfl) dX5_copy_103 ⟨by decide, by decide⟩ X.1 0 0 ⟨rfl, rfl⟩ (fun v H locs hv hS_16 => ?_)
                obtain ⟨⟨z_17, rfl, ez_17⟩, hw⟩ := hv
                replace X : zX D B0 (zj (layC cA a G S) M) s.heap H locs := ⟨hw, hS_16⟩
                refine z_fne E 116 ⟨by omega, by omega⟩ dX5_copy_106 (by decide) (fun h106_18 => ?_) (fun h106_18 => ?_)
                · obtain ⟨i0, rfl⟩ : ∃ i0 : Nat, x2 = (i0 : Int) := ⟨x2.toNat, by omega⟩
                  obtain ⟨j0, rfl⟩ : ∃ j0 : Nat, x4 = (j0 : Int) := ⟨x4.toNat, by omega⟩
                  obtain ⟨nn, rfl⟩ : ∃ nn : Nat, x5 = (nn : Int) := ⟨x5.toNat, by omega⟩
                  refine lv_aload E.1 E.2.1 dX5_copy_116 (lv_at hl 1 rfl) ?_
                  refine z_get E X (lC_15 M cA a G S q ⟨by omega, by omega⟩) rfl iX2 1 (by decide) (by decide +kernel) (v := .ref (a 16 q)) rfl dX5_copy_118 ?_
                  refine lv_iload_n E.1 E.2.1 dX5_copy_121 rfl (lv_at hl 4 rfl) ?_
                  refine lv_aload E.1 E.2.1 dX5_copy_122 (lv_at hl 0 rfl) ?_
                  refine z_get E X (lC_15 M cA a G S r ⟨by omega, by omega⟩) rfl iX2 1 (by decide) (by decide +kernel) (v := .ref (a 16 r)) rfl dX5_copy_124 ?_
                  refine lv_iload E.1 E.2.1 dX5_copy_127 (lv_at hl 6 rfl) ?_
                  refine lv_iload E.1 E.2.1 dX5_copy_129 (lv_at hl 7 rfl) ?_
                  refine z_copyi E X (by decide +kernel) (by decide +kernel) (by decide +kernel) (by decide +kernel) (lC_16 M cA a G S q ⟨by omega, by omega⟩) (lC_16 M cA a G S r ⟨by omega, by omega⟩) i0 j0 nn (by omega) (by omega) (by omega) (by omega) (by omega) (by omega) (by omega) hl.1 (by decide) (Nat.le_of_ble_eq_true rfl) dX5_copy_131 (fun H locs X => ?_)
                  have X := cw_copy ⟨by omega, by omega⟩ (by omega) (fun i hi => (hI.2.2.2.2.1.1 i hi).1.2) X
                  refine lv_iload E.1 E.2.1 dX5_copy_134 (lv_at hl 7 rfl) ?_
                  have ef : fCopy S (q : Int) (i0 : Int) (r : Int) (j0 : Int) (nn : Int) = ((nn : Int), cps S q i0 r j0 nn) := by
                    unfold fCopy
                    simp only [Int.toNat_natCast]
                    rw [if_neg (by omega), if_neg (by omega), if_neg (by omega), if_neg (by omega), if_neg (by omega)]
                  exact z_ret E X hQ (⟨(congrArg (fun w => some (Value.int (i32 w.1))) ef).symm, a, G, rfl, by rw [ef]; exact CG_25 (fun k hk => cps_k hk _) hG, by rw [ef]; exact X.1⟩) dX5_copy_136
                · refine lv_aload_n E.1 E.2.1 dX5_copy_109 rfl (lv_at hl 2 rfl) ?_
                  refine z_bipush E dX5_copy_110 (by decide +kernel) ?_
                  refine z_callV (As := [.int (i32 (-12))]) (rest := []) (n := 1) E X (lC_0 M cA a G S) rfl (x_found l D cA B0 M a G S (-12)) gX5_copy_X5_found rfl (by decide +kernel) ⟨by decide, by decide⟩ rfl hl.1 rfl (Nat.le_of_ble_eq_true rfl) dX5_copy_112 ⟨by decide, by decide⟩ X.1 0 0 ⟨rfl, rfl⟩ (fun v H locs hv hS_19 => ?_)
                  obtain ⟨rfl, hw⟩ := hv
                  replace X : zX D B0 (zj (layC cA a G (zs S 27 0 (S 27 0 + 1))) M) s.heap H locs := ⟨hw, hS_19⟩
                  have ef : fCopy S (q : Int) x2 (r : Int) x4 x5 = (-12, zs S 27 0 (S 27 0 + 1)) := by
                    unfold fCopy
                    try unfold fFind
                    try simp only [Int.toNat_natCast]
                    repeat' split
                    all_goals first | rfl | (exfalso; omega)
                  exact z_ret E X hQ (⟨(congrArg (fun w => some (Value.int (i32 w.1))) ef).symm, a, G, rfl, by rw [ef]; exact CG_27 hG, by rw [ef]; exact X.1⟩) dX5_copy_115
            · refine lv_aload_n E.1 E.2.1 dX5_copy_79 rfl (lv_at hl 2 rfl) ?_
              refine z_bipush E dX5_copy_80 (by decide +kernel) ?_
              refine z_callV (As := [.int (i32 (-14))]) (rest := []) (n := 1) E X (lC_0 M cA a G S) rfl (x_found l D cA B0 M a G S (-14)) gX5_copy_X5_found rfl (by decide +kernel) ⟨by decide, by decide⟩ rfl hl.1 rfl (Nat.le_of_ble_eq_true rfl) dX5_copy_82 ⟨by decide, by decide⟩ X.1 0 0 ⟨rfl, rfl⟩ (fun v H locs hv hS_20 => ?_)
              obtain ⟨rfl, hw⟩ := hv
              replace X : zX D B0 (zj (layC cA a G (zs S 27 0 (S 27 0 + 1))) M) s.heap H locs := ⟨hw, hS_20⟩
              have ef : fCopy S (q : Int) x2 (r : Int) x4 x5 = (-14, zs S 27 0 (S 27 0 + 1)) := by
                unfold fCopy
                try unfold fFind
                try simp only [Int.toNat_natCast]
                repeat' split
                all_goals first | rfl | (exfalso; omega)
              exact z_ret E X hQ (⟨(congrArg (fun w => some (Value.int (i32 w.1))) ef).symm, a, G, rfl, by rw [ef]; exact CG_27 hG, by rw [ef]; exact X.1⟩) dX5_copy_85
          · refine lv_aload_n E.1 E.2.1 dX5_copy_67 rfl (lv_at hl 2 rfl) ?_
            refine z_bipush E dX5_copy_68 (by decide +kernel) ?_
            refine z_callV (As := [.int (i32 (-13))]) (rest := []) (n := 1) E X (lC_0 M cA a G S) rfl (x_found l D cA B0 M a G S (-13)) gX5_copy_X5_found rfl (by decide +kernel) ⟨by decide, by decide⟩ rfl hl.1 rfl (Nat.le_of_ble_eq_true rfl) dX5_copy_70 ⟨by decide, by decide⟩ X.1 0 0 ⟨rfl, rfl⟩ (fun v H locs hv hS_21 => ?_)
            obtain ⟨rfl, hw⟩ := hv
            replace X : zX D B0 (zj (layC cA a G (zs S 27 0 (S 27 0 + 1))) M) s.heap H locs := ⟨hw, hS_21⟩
            have ef : fCopy S (q : Int) x2 (r : Int) x4 x5 = (-13, zs S 27 0 (S 27 0 + 1)) := by
              unfold fCopy
              try unfold fFind
              try simp only [Int.toNat_natCast]
              repeat' split
              all_goals first | rfl | (exfalso; omega)
            exact z_ret E X hQ (⟨(congrArg (fun w => some (Value.int (i32 w.1))) ef).symm, a, G, rfl, by rw [ef]; exact CG_27 hG, by rw [ef]; exact X.1⟩) dX5_copy_73
        · refine z_aldN (C := "EchoRow$Sheet") E X 5 (lC_7 M cA a G S) rfl r (by omega) (by omega) (by decide) (if_neg hp_9) dX5_copy_34 ?_
          refine lv_astoreN (lv' := [(7, .null), (6, .ref (a 15 q)), (0, .ref (a 0 0)), (1, .int (i32 (q : Int))), (2, .int (i32 x2)), (3, .int (i32 (r : Int))), (4, .int (i32 x4)), (5, .int (i32 x5))]) E.1 E.2.1 dX5_copy_35 hl (by decide) rfl (fun ls hl => ?_)
          refine lv_aload E.1 E.2.1 dX5_copy_37 (lv_at hl 1 rfl) ?_
          refine lv_ifnull E.1 E.2.1 dX5_copy_39 ?_
          refine lv_aloadN E.1 E.2.1 dX5_copy_42 (lv_at hl 0 rfl) ?_
          refine lv_ifnonnullN E.1 E.2.1 dX5_copy_44 ?_
          refine lv_aload_n E.1 E.2.1 dX5_copy_47 rfl (lv_at hl 2 rfl) ?_
          refine z_bipush E dX5_copy_48 (by decide +kernel) ?_
          refine z_callV (As := [.int (i32 (-11))]) (rest := []) (n := 1) E X (lC_0 M cA a G S) rfl (x_found l D cA B0 M a G S (-11)) gX5_copy_X5_found rfl (by decide +kernel) ⟨by decide, by decide⟩ rfl hl.1 rfl (Nat.le_of_ble_eq_true rfl) dX5_copy_50 ⟨by decide, by decide⟩ X.1 0 0 ⟨rfl, rfl⟩ (fun v H locs hv hS_22 => ?_)
          obtain ⟨rfl, hw⟩ := hv
          replace X : zX D B0 (zj (layC cA a G (zs S 27 0 (S 27 0 + 1))) M) s.heap H locs := ⟨hw, hS_22⟩
          have ef : fCopy S (q : Int) x2 (r : Int) x4 x5 = (-11, zs S 27 0 (S 27 0 + 1)) := by
            unfold fCopy
            try unfold fFind
            try simp only [Int.toNat_natCast]
            repeat' split
            all_goals first | rfl | (exfalso; omega)
          exact z_ret E X hQ (⟨(congrArg (fun w => some (Value.int (i32 w.1))) ef).symm, a, G, rfl, by rw [ef]; exact CG_27 hG, by rw [ef]; exact X.1⟩) dX5_copy_53
      · refine z_aldN (C := "EchoRow$Sheet") E X 5 (lC_7 M cA a G S) rfl q (by omega) (by omega) (by decide) (if_neg hp_8) dX5_copy_26 ?_
        refine lv_astoreN (lv' := [(6, .null), (0, .ref (a 0 0)), (1, .int (i32 (q : Int))), (2, .int (i32 x2)), (3, .int (i32 (r : Int))), (4, .int (i32 x4)), (5, .int (i32 x5))]) E.1 E.2.1 dX5_copy_27 hl (by decide) rfl (fun ls hl => ?_)
        refine lv_aload_n E.1 E.2.1 dX5_copy_29 rfl (lv_at hl 1 rfl) ?_
        refine z_get E X (lC_0 M cA a G S) rfl iX5 4 (by decide) (by decide +kernel) (v := .ref (a 7 0)) rfl dX5_copy_30 ?_
        refine lv_iload_n E.1 E.2.1 dX5_copy_33 rfl (lv_at hl 4 rfl) ?_
        by_cases hp_23 : 0 ≤ S 23 r
        · refine z_aldS (C := "EchoRow$Sheet") E X 5 (lC_7 M cA a G S) rfl r (by omega) (by omega) (by decide) (if_pos hp_23) dX5_copy_34 ?_
          refine lv_astore (lv' := [(7, .ref (a 15 r)), (6, .null), (0, .ref (a 0 0)), (1, .int (i32 (q : Int))), (2, .int (i32 x2)), (3, .int (i32 (r : Int))), (4, .int (i32 x4)), (5, .int (i32 x5))]) E.1 E.2.1 dX5_copy_35 hl (by decide) rfl (fun ls hl => ?_)
          refine lv_aloadN E.1 E.2.1 dX5_copy_37 (lv_at hl 1 rfl) ?_
          refine lv_ifnullN (tgt := 47) E.1 E.2.1 dX5_copy_39 (by decide) ?_
          refine lv_aload_n E.1 E.2.1 dX5_copy_47 rfl (lv_at hl 2 rfl) ?_
          refine z_bipush E dX5_copy_48 (by decide +kernel) ?_
          refine z_callV (As := [.int (i32 (-11))]) (rest := []) (n := 1) E X (lC_0 M cA a G S) rfl (x_found l D cA B0 M a G S (-11)) gX5_copy_X5_found rfl (by decide +kernel) ⟨by decide, by decide⟩ rfl hl.1 rfl (Nat.le_of_ble_eq_true rfl) dX5_copy_50 ⟨by decide, by decide⟩ X.1 0 0 ⟨rfl, rfl⟩ (fun v H locs hv hS_24 => ?_)
          obtain ⟨rfl, hw⟩ := hv
          replace X : zX D B0 (zj (layC cA a G (zs S 27 0 (S 27 0 + 1))) M) s.heap H locs := ⟨hw, hS_24⟩
          have ef : fCopy S (q : Int) x2 (r : Int) x4 x5 = (-11, zs S 27 0 (S 27 0 + 1)) := by
            unfold fCopy
            try unfold fFind
            try simp only [Int.toNat_natCast]
            repeat' split
            all_goals first | rfl | (exfalso; omega)
          exact z_ret E X hQ (⟨(congrArg (fun w => some (Value.int (i32 w.1))) ef).symm, a, G, rfl, by rw [ef]; exact CG_27 hG, by rw [ef]; exact X.1⟩) dX5_copy_53
        · refine z_aldN (C := "EchoRow$Sheet") E X 5 (lC_7 M cA a G S) rfl r (by omega) (by omega) (by decide) (if_neg hp_23) dX5_copy_34 ?_
          refine lv_astoreN (lv' := [(7, .null), (6, .null), (0, .ref (a 0 0)), (1, .int (i32 (q : Int))), (2, .int (i32 x2)), (3, .int (i32 (r : Int))), (4, .int (i32 x4)), (5, .int (i32 x5))]) E.1 E.2.1 dX5_copy_35 hl (by decide) rfl (fun ls hl => ?_)
          refine lv_aloadN E.1 E.2.1 dX5_copy_37 (lv_at hl 1 rfl) ?_
          refine lv_ifnullN (tgt := 47) E.1 E.2.1 dX5_copy_39 (by decide) ?_
          refine lv_aload_n E.1 E.2.1 dX5_copy_47 rfl (lv_at hl 2 rfl) ?_
          refine z_bipush E dX5_copy_48 (by decide +kernel) ?_
          refine z_callV (As := [.int (i32 (-11))]) (rest := []) (n := 1) E X (lC_0 M cA a G S) rfl (x_found l D cA B0 M a G S (-11)) gX5_copy_X5_found rfl (by decide +kernel) ⟨by decide, by decide⟩ rfl hl.1 rfl (Nat.le_of_ble_eq_true rfl) dX5_copy_50 ⟨by decide, by decide⟩ X.1 0 0 ⟨rfl, rfl⟩ (fun v H locs hv hS_25 => ?_)
          obtain ⟨rfl, hw⟩ := hv
          replace X : zX D B0 (zj (layC cA a G (zs S 27 0 (S 27 0 + 1))) M) s.heap H locs := ⟨hw, hS_25⟩
          have ef : fCopy S (q : Int) x2 (r : Int) x4 x5 = (-11, zs S 27 0 (S 27 0 + 1)) := by
            unfold fCopy
            try unfold fFind
            try simp only [Int.toNat_natCast]
            repeat' split
            all_goals first | rfl | (exfalso; omega)
          exact z_ret E X hQ (⟨(congrArg (fun w => some (Value.int (i32 w.1))) ef).symm, a, G, rfl, by rw [ef]; exact CG_27 hG, by rw [ef]; exact X.1⟩) dX5_copy_53
    · refine lv_aload_n E.1 E.2.1 dX5_copy_14 rfl (lv_at hl 0 rfl) ?_
      refine z_bipush E dX5_copy_15 (by decide +kernel) ?_
      refine z_callV (As := [.int (i32 (-12))]) (rest := []) (n := 1) E X (lC_0 M cA a G S) rfl (x_found l D cA B0 M a G S (-12)) gX5_copy_X5_found rfl (by decide +kernel) ⟨by decide, by decide⟩ rfl hl.1 rfl (Nat.le_of_ble_eq_true rfl) dX5_copy_17 ⟨by decide, by decide⟩ X.1 0 0 ⟨rfl, rfl⟩ (fun v H locs hv hS_26 => ?_)
      obtain ⟨rfl, hw⟩ := hv
      replace X : zX D B0 (zj (layC cA a G (zs S 27 0 (S 27 0 + 1))) M) s.heap H locs := ⟨hw, hS_26⟩
      have ef : fCopy S x1 x2 x3 x4 x5 = (-12, zs S 27 0 (S 27 0 + 1)) := by
        unfold fCopy
        try unfold fFind
        try simp only [Int.toNat_natCast]
        repeat' split
        all_goals first | rfl | (exfalso; omega)
      exact z_ret E X hQ (⟨(congrArg (fun w => some (Value.int (i32 w.1))) ef).symm, a, G, rfl, by rw [ef]; exact CG_27 hG, by rw [ef]; exact X.1⟩) dX5_copy_20

