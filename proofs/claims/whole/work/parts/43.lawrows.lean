def R_law : String := "EchoRowLaw"
def lw_P (b : Addr) (xs : List Int32) (args : Array Value) (s : State) : Prop := args = #[.ref b] ∧ s.IntsAt b xs ∧ xs.length ≤ 3072 ∧ (Jvm.Cond.and given_1 narrow_1).before args s = true
def lw_Q (_ : Array Value) (s : State) (o : Outcome) (t : State) : Prop := o = .returned (some (.int 1)) ∧ Framed s o t [] 600000 7302250
def lw_Z (below : List Frame) (a : Array Value) (s : State) : State → Prop := fun t => ∃ o, t.status = .running ∧ Ended t below o ∧ lw_Q a s o t
/-- the law's own end, with 1 on the stack, nothing written that was there before, its room as the claim has it -/
theorem lw_ret {p : Program} {l : Launch} {e : Env} {s : State} {m : MethodId} {below : List Frame} {meth : Method} {c : Code} {b : Nat} (hx : p.tables.exec = Jvm.exec) (hb : c.code = code) (hr : meth.sig.returnType = ret) (hlocks : meth.locks = false) {pc : Nat} {H : Heap} {ls : Array Slot} (hdg : decode code pc = .ok (.ireturn, 1)) : W p l e room_1 s m #[Value.ref b] below meth c H [] 600000 7302250 (lw_Z below #[Value.ref b] s) (F0 m pc ls [.int 1]) := by
  intro T hT X
  obtain ⟨fs, hret, hrun, hended, hW, hframe⟩ := X.leave (v := some (.int 1)) (hlocks := hlocks) (fun h => by rw [hr] at h; cases h)
  have hmeth' : T.vm.method? m = some meth := X.method'
  refine ⟨T.setFrames fs, ?_, .returned (some (.int 1)), hrun, hended, rfl, ⟨_, rfl⟩, hW, hframe⟩
  jvm_step X.here [X.here.top, hx, hb, hdg, hmeth', hr, ret, narrow_b1]
  (try refine ⟨rfl, ?_⟩); (try refine ⟨rfl, ?_⟩)
  first | (intro acts; rw [hret _ acts rfl rfl rfl]) | rw [hret _ _ rfl rfl rfl]
  exact Steps.refl _
/-- what holds at the law's entry: the machine, the code, the tables' words (any of lw_tbl by 'hts w (by decide +kernel)'), the script of L ints xs at the cell b, what the Statement gives of the start (any of its parts by flat_of_before) -/
def lw_At (p : Program) (s : State) (m : MethodId) (meth : Method) (c : Code) (b L : Nat) (xs : Nat → Int32) : Prop :=
  p.tables.exec = Jvm.exec ∧ c.code = code ∧ meth.sig.returnType = ret ∧ c.maxLocals = 4 ∧ s.vm.findClass R_law = some m.cls ∧ (∀ w ∈ lw_tbl, w.before #[Value.ref b] s = true) ∧ va_X b L xs s s.heap ∧ b < s.heap.size ∧ meth.locks = false ∧ (Jvm.Cond.and given_1 narrow_1).before #[Value.ref b] s = true
section ZLW
variable {p : Program} {l : Launch} {e : Env} {R : Room} {s : State} {m : MethodId} {args : Array Value} {below : List Frame} {meth : Method} {c : Code} {H : Heap} {locs : List Loc} {cells slots : Nat} {Q : State → Prop}
variable {cc : ByteArray} {pc : Nat} {ls : Array Slot} {rest : List Value} {own nm : String} {ws : List Cond} {ml : Nat} {rt : Option FieldType} {D : va_G} {cA : Nat → ClassId} {L : zL}
theorem z_sld (E : zE p s m args meth c cc own nm ws ml rt D cA) (X : zX D s.heap.size L s.heap H locs) {b N : Nat} {xs : Nat → Int32} (hX : va_X b N xs s s.heap) (hbl : b < s.heap.size) {z y : Int} (j : Nat) (hj : z = (j : Int)) (h2 : j < N) (h3 : N ≤ 3072) (hy : y = (xs j).toInt) (d : decode cc pc = .ok (.iaload, 1))
    (kk : W p l e R s m args below meth c H locs cells slots Q (F0 m (pc + 1) ls (.int (i32 y) :: rest))) : W p l e R s m args below meth c H locs cells slots Q (F0 m pc ls (.int (i32 z) :: .ref b :: rest)) := by
  refine va_sld (A := fun q => s.heap.size ≤ q) E.1 E.2.1 hX hbl (Nat.not_le.mpr hbl) X.2 (i32_inN hj h2 (by omega)) d ?_
  rw [i32_clampN hj (by omega)]
  have ey : xs j = i32 y := by rw [hy]; exact (i32_self (xs j)).symm
  rw [ey]
  exact kk
theorem z_slen (E : zE p s m args meth c cc own nm ws ml rt D cA) (X : zX D s.heap.size L s.heap H locs) {b N : Nat} {xs : Nat → Int32} (hX : va_X b N xs s s.heap) (hbl : b < s.heap.size) (d : decode cc pc = .ok (.arraylength, 1))
    (kk : W p l e R s m args below meth c H locs cells slots Q (F0 m (pc + 1) ls (.int (i32 (N : Int)) :: rest))) : W p l e R s m args below meth c H locs cells slots Q (F0 m pc ls (.ref b :: rest)) := by
  refine va_slen (A := fun q => s.heap.size ≤ q) E.1 E.2.1 hX hbl (Nat.not_le.mpr hbl) X.2 d ?_
  rw [show Int32.ofNat N = i32 (N : Int) from nI_i N]
  exact kk
theorem z_iand (E : zE p s m args meth c cc own nm ws ml rt D cA) {x y : Int} (d : decode cc pc = .ok (.iand, 1))
    (kk : ∀ z : Int, zr z → W p l e R s m args below meth c H locs cells slots Q (F0 m (pc + 1) ls (.int (i32 z) :: rest))) : W p l e R s m args below meth c H locs cells slots Q (F0 m pc ls (.int (i32 y) :: .int (i32 x) :: rest)) := by
  refine lv_iand E.1 E.2.1 d ?_
  have h := kk (i32 x &&& i32 y).toInt (i32_rng _)
  rw [i32_self] at h
  exact h
end ZLW
theorem inlX5 : ∀ w ∈ wsX50, w ∈ wsL_law := fun _ h => List.mem_append_left _ (List.mem_append_left _ (List.mem_append_left _ (List.mem_append_left _ (List.mem_append_left _ (List.mem_append_left _ (List.mem_append_left _ (List.mem_append_right _ h)))))))
theorem inlX6 : ∀ w ∈ wsX60, w ∈ wsL_law := fun _ h => List.mem_append_left _ (List.mem_append_left _ (List.mem_append_left _ (List.mem_append_left _ (List.mem_append_left _ (List.mem_append_left _ (List.mem_append_right _ h))))))
/-! what the walk of the law rests on, out of what holds at its entry -/
set_option maxRecDepth 100000 in
theorem law_env {p : Program} {s : State} {m : MethodId} {meth : Method} {c : Code} {b L : Nat} {xs : Nat → Int32} (C0 : lw_At p s m meth c b L xs) : ∃ (D : va_G) (cA : Nat → ClassId), zE p s m #[Value.ref b] meth c cL_law RL meth.name wsL_law 4 ret D cA := by
  obtain ⟨hx, hb, hr, hml, hown, hts, hX, hbl, hlocks, hgv⟩ := C0
  obtain ⟨c0, i0, k0⟩ := u_known (C := RX0) (T := TX0) (N := 4) (n := 4) hts inf_X0 (hts (.instantiable RX0 4) (List.mem_of_getElem? (i := 148) (by decide +kernel)))
  obtain ⟨c1, i1, k1⟩ := u_known (C := RX1) (T := TX1) (N := 7) (n := 7) hts inf_X1 (hts (.instantiable RX1 7) (List.mem_of_getElem? (i := 46) (by decide +kernel)))
  obtain ⟨c2, i2, k2⟩ := u_known (C := RX2) (T := TX2) (N := 2) (n := 2) hts inf_X2 (hts (.instantiable RX2 2) (List.mem_of_getElem? (i := 376) (by decide +kernel)))
  obtain ⟨c3, i3, k3⟩ := u_known (C := RX3) (T := TX3) (N := 6) (n := 6) hts inf_X3 (hts (.instantiable RX3 6) (List.mem_of_getElem? (i := 193) (by decide +kernel)))
  obtain ⟨c4, i4, k4⟩ := u_known (C := RX4) (T := TX4) (N := 3) (n := 3) hts inf_X4 (hts (.instantiable RX4 3) (List.mem_of_getElem? (i := 335) (by decide +kernel)))
  obtain ⟨c5, i5, k5⟩ := u_known (C := RX5) (T := TX5) (N := 11) (n := 11) hts inf_X5 (hts (.instantiable RX5 11) (List.mem_of_getElem? (i := 38) (by decide +kernel)))
  obtain ⟨c6, i6, k6⟩ := u_known (C := RX6) (T := TX6) (N := 28) (n := 28) hts inf_X6 (hts (.instantiable RX6 28) (List.mem_of_getElem? (i := 447) (by decide +kernel)))
  obtain ⟨a0, ka0, co0, f0, g0, e0⟩ := Cond.arrayClass_spec (hts (.arrayClass .int) (List.mem_of_getElem? (i := 81) (by decide +kernel)))
  obtain ⟨a1, ka1, co1, f1, g1, e1⟩ := Cond.arrayClass_spec (hts (.arrayClass .boolean) (List.mem_of_getElem? (i := 82) (by decide +kernel)))
  have ao2 := hts (.arrayOver (.object "EchoRow$Element")) (List.mem_of_getElem? (i := 84) (by decide +kernel))
  obtain ⟨co2, a2, ka2, f2, -, g2, e2, n2⟩ := Cond.arrayOver_spec ao2
  have ao3 := hts (.arrayOver (.object "EchoRow$Target")) (List.mem_of_getElem? (i := 86) (by decide +kernel))
  obtain ⟨co3, a3, ka3, f3, -, g3, e3, n3⟩ := Cond.arrayOver_spec ao3
  have ao4 := hts (.arrayOver (.object "EchoRow$Told")) (List.mem_of_getElem? (i := 88) (by decide +kernel))
  obtain ⟨co4, a4, ka4, f4, -, g4, e4, n4⟩ := Cond.arrayOver_spec ao4
  have ao5 := hts (.arrayOver (.object "EchoRow$Sheet")) (List.mem_of_getElem? (i := 90) (by decide +kernel))
  obtain ⟨co5, a5, ka5, f5, -, g5, e5, n5⟩ := Cond.arrayOver_spec ao5
  refine ⟨(fun k => match k with
    | 0 => c0
    | 1 => c1
    | 2 => c2
    | 3 => c3
    | 4 => c4
    | 5 => c5
    | _ => c6, fun k => match k with
    | 0 => i0
    | 1 => i1
    | 2 => i2
    | 3 => i3
    | 4 => i4
    | 5 => i5
    | _ => i6), fun k => match k with
    | 0 => a0
    | 1 => a1
    | 2 => a2
    | 3 => a3
    | 4 => a4
    | _ => a5, hx, hb, hml, hown, fun w h => hts w (wsL_law_in w h), ⟨⟨fun k q hq => ?_, fun k q hq => ?_⟩, va_Nw.of rfl (hts (.methodLinkNest RX1 43 yX5_outside RX5) (List.mem_of_getElem? (i := 189) (by decide +kernel))), va_AO.of ao2, va_AO.of ao3, va_AO.of ao4, va_AO.of ao5⟩, hlocks, hr, rfl⟩
  · match k, hq with
    | 0, hq => cases hq; exact k0
    | 1, hq => cases hq; exact k1
    | 2, hq => cases hq; exact k2
    | 3, hq => cases hq; exact k3
    | 4, hq => cases hq; exact k4
    | 5, hq => cases hq; exact k5
    | 6, hq => cases hq; exact k6
    | k + 7, hq => simp at hq
  · match k, hq with
    | 0, hq => cases hq; exact ⟨fun n z => ⟨fun k h => (by cases h), ka0, g0, co0, e0⟩, f0⟩
    | 1, hq => cases hq; exact ⟨fun n z => ⟨fun k h => (by cases h), ka1, g1, co1, e1⟩, f1⟩
    | 2, hq => cases hq; exact ⟨fun n z => ⟨fun k h => (by cases h), ka2, g2, co2, e2⟩, ka2, co2, g2, e2, f2, n2⟩
    | 3, hq => cases hq; exact ⟨fun n z => ⟨fun k h => (by cases h), ka3, g3, co3, e3⟩, ka3, co3, g3, e3, f3, n3⟩
    | 4, hq => cases hq; exact ⟨fun n z => ⟨fun k h => (by cases h), ka4, g4, co4, e4⟩, ka4, co4, g4, e4, f4, n4⟩
    | 5, hq => cases hq; exact ⟨fun n z => ⟨fun k h => (by cases h), ka5, g5, co5, e5⟩, ka5, co5, g5, e5, f5, n5⟩
    | k + 6, hq => simp [ztys] at hq
