theorem i32_clampN {z : Int} {j : Nat} (hj : z = (j : Int)) (h : j < 2147483648) : (i32 z).toNatClampNeg = j := by
  rw [i32_clamp (by omega) (by omega)]
  omega
theorem i32_inN {z : Int} {j n : Nat} (hj : z = (j : Int)) (h2 : j < n) (h3 : n < 2147483648) : vp_in (i32 z) n := i32_in (by omega) (by omega) (by omega)
section ZH
theorem z_top {p : Program} {l : Launch} {e : Env} {R : Room} {s : State} {m : MethodId} {args : Array Value} {below : List Frame} {meth : Method} {c : Code} {H : Heap} {locs : List Loc} {cells slots pc : Nat} {Q : State → Prop} {ls : Array Slot} {rest : List Value} {z : Int} (z' : Int) (h : z = z') (k : W p l e R s m args below meth c H locs cells slots Q (F0 m pc ls (.int (i32 z') :: rest))) : W p l e R s m args below meth c H locs cells slots Q (F0 m pc ls (.int (i32 z) :: rest)) := by
  subst h
  exact k
theorem z_topl {p : Program} {l : Launch} {e : Env} {R : Room} {s : State} {m : MethodId} {args : Array Value} {below : List Frame} {meth : Method} {c : Code} {H : Heap} {locs : List Loc} {cells slots pc : Nat} {Q : State → Prop} {ls : Array Slot} {rest : List Value} {z : Int} (z' : Int) (h : z = z') (k : W p l e R s m args below meth c H locs cells slots Q (F0 m pc ls (.long (i64 z') :: rest))) : W p l e R s m args below meth c H locs cells slots Q (F0 m pc ls (.long (i64 z) :: rest)) := by
  subst h
  exact k
variable {p : Program} {l : Launch} {e : Env} {R : Room} {s : State} {m : MethodId} {args : Array Value} {below : List Frame} {meth : Method} {c : Code} {H : Heap} {locs : List Loc} {cells slots : Nat} {Q : State → Prop}
variable {cc : ByteArray} {pc : Nat} {ls : Array Slot} {rest : List Value} {own nm : String} {ws : List Cond} {ml : Nat} {ret : Option FieldType} {D : va_G} {cA : Nat → ClassId} {B0 : Nat} {L : zL} {post : Option Value → Heap → Prop}
theorem z_get (E : zE p s m args meth c cc own nm ws ml ret D cA) (X : zX D B0 L s.heap H locs) {k i a ci : Nat} {fs : List Value} (h : L k i = some (a, .inr (ci, fs))) {C : String} {T : u_T} {N index : Nat} (hc : vwCl[ci]? = some (C, T, N)) (hin : ∀ w ∈ u_ws C T N, w ∈ ws) (f : Nat) (hf : f < N) (hl : Cond.fieldLink own index (T f).1 (T f).2.1 (T f).2.2.1 ∈ ws) {v : Value} (hv : fs[f]? = some v) (d : decode cc pc = .ok (.getfield index, 3))
    (kk : W p l e R s m args below meth c H locs cells slots Q (F0 m (pc + 3) ls (v :: rest))) : W p l e R s m args below meth c H locs cells slots Q (F0 m pc ls (.ref a :: rest)) :=
  va_get (D := D) (cl := vwCl) (tys := ztys cA) E.1 E.2.1 E.2.2.2.2.1 hin E.2.2.2.1 E.2.2.2.2.2.1.1 (X.1.P h) 0 rfl hc f hf (E.2.2.2.2.1 _ hl) (fun _ q => q) hv d kk
theorem zX.put {D : va_G} {B0 : Nat} {L : zL} {H0 H H1 : Heap} {locs : List Loc} {k i a n : Nat} {e0 e : va_E} (w : zX D B0 L H0 H locs) (h : L k i = some (a, e0)) (he : va_at D vwCl (a, e) H1) (hz : H1.size = H.size) (oq : ∀ q : Nat, q ≠ a → H1[q]? = H[q]?) : zX D B0 (zu L k i (some (a, e))) H0 H1 (locs ++ [⟨a, n⟩]) :=
  ⟨w.1.put h he hz oq, w.2.put hz oq (w.1.1 k i _ h).2⟩
theorem z_put (E : zE p s m args meth c cc own nm ws ml ret D cA) (X : zX D B0 L s.heap H locs) {k i a ci : Nat} {fs : List Value} (h : L k i = some (a, .inr (ci, fs))) {C : String} {T : u_T} {N index : Nat} (hc : vwCl[ci]? = some (C, T, N)) (hin : ∀ w ∈ u_ws C T N, w ∈ ws) (ty0 : Nat → FieldType) (hty : ∀ k, k < N → parseFieldDescriptor (T k).2.2.1 = some (ty0 k)) (hnm : ∀ a, a < N → ∀ b, b < N → a ≠ b → (T a).2.1 ≠ (T b).2.1) (f : Nat) (hf : f < N) (hl : Cond.fieldLink own index (T f).1 (T f).2.1 (T f).2.2.1 ∈ ws) (hfin : (T f).2.2.2 = false) {v : Value} (hn : narrow (ty0 f) v = v) (hfit : fits (ty0 f) v = true) (hlen : f < fs.length) (d : decode cc pc = .ok (.putfield index, 3))
    (kk : ∀ (H : Heap) (locs : List Loc), zX D B0 (zu L k i (some (a, .inr (ci, fs.set f v)))) s.heap H locs → W p l e R s m args below meth c H locs cells slots Q (F0 m (pc + 3) ls rest)) : W p l e R s m args below meth c H locs cells slots Q (F0 m pc ls (v :: .ref a :: rest)) := by
  have hK := E.2.2.2.2.2.1.1
  have hts := E.2.2.2.2.1
  have hap := va_apart (own := own) hts hin ty0 hty hnm hK hc
  obtain ⟨r, h1, cell, q1, q2, q3, q4⟩ := (X.1.1 k i _ h).1
  have hr : r = (C, T, N) := Option.some.inj (h1.symm.trans hc)
  subst hr
  obtain ⟨hS, hfc, kC, hkC, hkind⟩ := hK.1 ci _ hc
  obtain ⟨cf, kf, fi, fd, hi, hsl⟩ := hS f hf
  have hlay := hts _ (hin _ (u_in_lay hf))
  unfold u_lay at hlay
  rw [if_neg (by rw [hfin]; decide)] at hlay
  have hst := (u_facts hfc hkC (u_lays hts hin hf) hi).1
  have h6 := u_store hfc hkC hkind hlay hi (hty f hf) hn hfit
  refine W.putK E.1 E.2.1 (f := fd) ⟨E.2.2.2.1, hts _ hl, ⟨_, _, _, hi⟩, hst⟩ (by rw [q2]; exact h6) q1 q3 (by rw [hsl]; exact k2_hasslot (q4 f hf)) rfl rfl d fun H' e1 e2 e3 => ?_
  rw [hsl] at e1 ⊢
  exact kk H' _ (X.put h ⟨_, hc, t_OB.to (V := updV (vp_V fs) f v) ⟨_, e1, q2, q3, t_set q4 hap hf v⟩ (fun j _ => vp_updV_set hlen v j)⟩ e2 e3)
theorem z_putF (E : zE p s m args meth c cc own nm ws ml ret D cA) (X : zX D B0 L s.heap H locs) (hnm1 : nm = "<init>") {k i a ci : Nat} {fs : List Value} (h : L k i = some (a, .inr (ci, fs))) {C : String} {T : u_T} {N index : Nat} (hc : vwCl[ci]? = some (C, T, N)) (hin : ∀ w ∈ u_ws C T N, w ∈ ws) (ty0 : Nat → FieldType) (hty : ∀ k, k < N → parseFieldDescriptor (T k).2.2.1 = some (ty0 k)) (hnm : ∀ a, a < N → ∀ b, b < N → a ≠ b → (T a).2.1 ≠ (T b).2.1) (f : Nat) (hf : f < N) (hl : Cond.fieldLink own index (T f).1 (T f).2.1 (T f).2.2.1 ∈ ws) (hfin : (T f).2.2.2 = true) (hdecl : (T f).1 = own) {v : Value} (hn : narrow (ty0 f) v = v) (hfit : fits (ty0 f) v = true) (hlen : f < fs.length) (d : decode cc pc = .ok (.putfield index, 3))
    (kk : ∀ (H : Heap) (locs : List Loc), zX D B0 (zu L k i (some (a, .inr (ci, fs.set f v)))) s.heap H locs → W p l e R s m args below meth c H locs cells slots Q (F0 m (pc + 3) ls rest)) : W p l e R s m args below meth c H locs cells slots Q (F0 m pc ls (v :: .ref a :: rest)) := by
  have hK := E.2.2.2.2.2.1.1
  have hts := E.2.2.2.2.1
  have hown := E.2.2.2.1
  have hap := va_apart (own := own) hts hin ty0 hty hnm hK hc
  obtain ⟨r, h1, cell, q1, q2, q3, q4⟩ := (X.1.1 k i _ h).1
  have hr : r = (C, T, N) := Option.some.inj (h1.symm.trans hc)
  subst hr
  obtain ⟨hS, hfc, kC, hkC, hkind⟩ := hK.1 ci _ hc
  obtain ⟨cf, kf, fi, fd, hi, hsl⟩ := hS f hf
  have hlay := hts _ (hin _ (u_in_lay hf))
  unfold u_lay at hlay
  rw [if_pos hfin] at hlay
  have hst := (u_facts hfc hkC (u_lays hts hin hf) hi).1
  have hcf : m.cls = cf := by
    obtain ⟨_, _, c', _, _, _, -, -, hf', -, -, -, hown2, -⟩ := Cond.laysFinal_spec hlay
    have e1 : c' = cf := by have := hi.symm.trans hf'; simp at this; exact this.1.symm
    rw [hdecl] at hown2
    rw [← e1]; exact Option.some.inj (hown.symm.trans hown2)
  have h6 := u_fits hfc hkC hkind (Or.inr hlay) hi (hty f hf) hn hfit
  refine W.putFinK E.1 E.2.1 hown (hts _ hl) hi hst hcf (E.2.2.2.2.2.2.2.2.trans hnm1) (by rw [q2]; exact h6) q1 q3 (by rw [hsl]; exact k2_hasslot (q4 f hf)) rfl rfl d fun H' e1 e2 e3 => ?_
  rw [hsl] at e1 ⊢
  exact kk H' _ (X.put h ⟨_, hc, t_OB.to (V := updV (vp_V fs) f v) ⟨_, e1, q2, q3, t_set q4 hap hf v⟩ (fun j _ => vp_updV_set hlen v j)⟩ e2 e3)
/-! arrays -/
theorem z_alen (E : zE p s m args meth c cc own nm ws ml ret D cA) (X : zX D B0 L s.heap H locs) {k i a : Nat} (t : Nat) {cl : ClassId} {x : vp_A} {ty : FieldType} (h : L k i = some (a, .inl (cl, x))) (ht : (ztys cA)[t]? = some (cl, ty)) {z : Int} (hz : (x.1 : Int) = z) (d : decode cc pc = .ok (.arraylength, 1))
    (kk : W p l e R s m args below meth c H locs cells slots Q (F0 m (pc + 1) ls (.int (i32 z) :: rest))) : W p l e R s m args below meth c H locs cells slots Q (F0 m pc ls (.ref a :: rest)) :=
  va_alen (D := D) (cl := vwCl) (tys := ztys cA) E.1 E.2.1 E.2.2.2.2.2.1.1 (X.1.P h) 0 t rfl ht (by rw [← hz]; exact nI_i x.1) d kk
theorem z_iald (E : zE p s m args meth c cc own nm ws ml ret D cA) (X : zX D B0 L s.heap H locs) {k i a n : Nat} {g : Nat → Int} (h : L k i = some (a, .inl (cA 0, n, .inl (fun j => i32 (g j))))) {z : Int} (j : Nat) (hj : z = (j : Int)) (h2 : j < n) (h3 : n < 2147483648) (d : decode cc pc = .ok (.iaload, 1))
    (kk : W p l e R s m args below meth c H locs cells slots Q (F0 m (pc + 1) ls (.int (i32 (g j)) :: rest))) : W p l e R s m args below meth c H locs cells slots Q (F0 m pc ls (.int (i32 z) :: .ref a :: rest)) := by
  refine va_iald (D := D) (cl := vwCl) (tys := ztys cA) E.1 E.2.1 E.2.2.2.2.2.1.1 (X.1.P h) 0 0 rfl rfl (i32_inN hj h2 h3) d ?_
  show W p l e R s m args below meth c H locs cells slots Q (F0 m (pc + 1) ls (.int (i32 (g (i32 z).toNatClampNeg)) :: rest))
  rw [i32_clampN hj (by omega)]
  exact kk
theorem z_zald (E : zE p s m args meth c cc own nm ws ml ret D cA) (X : zX D B0 L s.heap H locs) {k i a n : Nat} {g : Nat → Int} (h : L k i = some (a, .inl (cA 1, n, .inl (fun j => i32 (g j))))) {z : Int} (j : Nat) (hj : z = (j : Int)) (h2 : j < n) (h3 : n < 2147483648) (d : decode cc pc = .ok (.baload, 1))
    (kk : W p l e R s m args below meth c H locs cells slots Q (F0 m (pc + 1) ls (.int (i32 (g j)) :: rest))) : W p l e R s m args below meth c H locs cells slots Q (F0 m pc ls (.int (i32 z) :: .ref a :: rest)) := by
  refine va_zald (D := D) (cl := vwCl) (tys := ztys cA) E.1 E.2.1 E.2.2.2.2.2.1.1 (X.1.P h) 0 1 rfl rfl (i32_inN hj h2 h3) d ?_
  show W p l e R s m args below meth c H locs cells slots Q (F0 m (pc + 1) ls (.int (i32 (g (i32 z).toNatClampNeg)) :: rest))
  rw [i32_clampN hj (by omega)]
  exact kk
theorem z_aald (E : zE p s m args meth c cc own nm ws ml ret D cA) (X : zX D B0 L s.heap H locs) {k i a n : Nat} (t : Nat) {cl : ClassId} {C : String} {f : Nat → Option Nat} (h : L k i = some (a, .inl (cl, n, .inr (.inr (.inr (.inr f)))))) (ht : (ztys cA)[t]? = some (cl, .object C)) {z : Int} (j : Nat) (hj : z = (j : Int)) (h2 : j < n) (h3 : n < 2147483648) (d : decode cc pc = .ok (.aaload, 1))
    (ks : ∀ q : Nat, f j = some q → W p l e R s m args below meth c H locs cells slots Q (F0 m (pc + 1) ls (.ref q :: rest)))
    (kn : f j = none → W p l e R s m args below meth c H locs cells slots Q (F0 m (pc + 1) ls (.null :: rest))) : W p l e R s m args below meth c H locs cells slots Q (F0 m pc ls (.int (i32 z) :: .ref a :: rest)) := by
  refine va_aldq (D := D) (cl := vwCl) (tys := ztys cA) E.1 E.2.1 E.2.2.2.2.2.1.1 (X.1.P h) 0 t rfl ht (i32_inN hj h2 h3) d ?_
  rw [i32_clampN hj (by omega)]
  cases hq : f j with
  | none => exact kn hq
  | some q => exact ks q hq
def zg (g : Nat → Int) (k : Nat) (z : Int) : Nat → Int := fun j => if j = k then z else g j
theorem zg_upd (g : Nat → Int) (k : Nat) (z : Int) : upd (fun j => i32 (g j)) k (i32 z) = fun j => i32 (zg g k z j) := by
  funext j
  unfold upd zg
  split <;> rfl
theorem z_iast (E : zE p s m args meth c cc own nm ws ml ret D cA) (X : zX D B0 L s.heap H locs) {k i a n : Nat} {g : Nat → Int} (h : L k i = some (a, .inl (cA 0, n, .inl (fun j => i32 (g j))))) {z x : Int} (j : Nat) (hj : z = (j : Int)) (h2 : j < n) (h3 : n < 2147483648) (d : decode cc pc = .ok (.iastore, 1))
    (kk : ∀ (H : Heap) (locs : List Loc), zX D B0 (zu L k i (some (a, .inl (cA 0, n, .inl (fun j' => i32 (zg g j x j')))))) s.heap H locs → W p l e R s m args below meth c H locs cells slots Q (F0 m (pc + 1) ls rest)) : W p l e R s m args below meth c H locs cells slots Q (F0 m pc ls (.int (i32 x) :: .int (i32 z) :: .ref a :: rest)) := by
  have hin := i32_inN hj h2 h3
  refine W.iast E.1 E.2.1 (X.1.1 k i _ h).1 ((E.2.2.2.2.2.1.1.2 0 _ rfl).1 n (fun j => .int (i32 (g j)))) (fun q => by cases q) (by show ¬ (i32 z < 0 ∨ (arrV _ _ _).slots.size ≤ _); rw [arrV_size]; exact hin) rfl rfl d fun H1 e1 hz oq => ?_
  refine kk H1 _ (X.put h ?_ hz oq)
  show H1[a]? = some (vp_cell _ _)
  rw [e1, ← zg_upd, ← i32_clampN hj (by omega), vp_cell_i, vp_cell_i, arrV_store]
  congr 2
  funext q
  by_cases hq : q = (i32 z).toNatClampNeg
  · subst hq
    simp [updV, upd]
  · simp [updV, upd, hq]
theorem z_nb {z : Int} (h : z = 0 ∨ z = 1) : narrow .boolean (.int (i32 z)) = .int (i32 z) ∧ fits .boolean (.int (i32 z)) = true := by
  rcases h with rfl | rfl
  · exact ⟨by decide +kernel, by decide +kernel⟩
  · exact ⟨by decide +kernel, by decide +kernel⟩
theorem z_zast (E : zE p s m args meth c cc own nm ws ml ret D cA) (X : zX D B0 L s.heap H locs) {k i a n : Nat} {g : Nat → Int} (h : L k i = some (a, .inl (cA 1, n, .inl (fun j => i32 (g j))))) {z x : Int} (hx : x = 0 ∨ x = 1) (j : Nat) (hj : z = (j : Int)) (h2 : j < n) (h3 : n < 2147483648) (d : decode cc pc = .ok (.bastore, 1))
    (kk : ∀ (H : Heap) (locs : List Loc), zX D B0 (zu L k i (some (a, .inl (cA 1, n, .inl (fun j' => i32 (zg g j x j')))))) s.heap H locs → W p l e R s m args below meth c H locs cells slots Q (F0 m (pc + 1) ls rest)) : W p l e R s m args below meth c H locs cells slots Q (F0 m pc ls (.int (i32 x) :: .int (i32 z) :: .ref a :: rest)) := by
  have hin := i32_inN hj h2 h3
  refine W.zast E.1 E.2.1 (X.1.1 k i _ h).1 ((E.2.2.2.2.2.1.1.2 1 _ rfl).1 n (fun j => .int (i32 (g j)))) (fun q => by cases q) (by show ¬ (i32 z < 0 ∨ (arrV _ _ _).slots.size ≤ _); rw [arrV_size]; exact hin) rfl rfl d fun H1 e1 hz oq => ?_
  refine kk H1 _ (X.put h ?_ hz oq)
  show H1[a]? = some (vp_cell _ _)
  rw [(z_nb hx).1] at e1
  rw [e1, ← zg_upd, ← i32_clampN hj (by omega), vp_cell_i, vp_cell_i, arrV_store]
  congr 2
  funext q
  by_cases hq : q = (i32 z).toNatClampNeg
  · subst hq
    simp [updV, upd]
  · simp [updV, upd, hq]
theorem z_aast (E : zE p s m args meth c cc own nm ws ml ret D cA) (X : zX D B0 L s.heap H locs) {k i a n : Nat} (t : Nat) {cl : ClassId} {f : Nat → Option Nat} {r : vw_C} {k' i' v ci : Nat} {vs : List Value} (h : L k i = some (a, .inl (cl, n, .inr (.inr (.inr (.inr f)))))) (ht : (ztys cA)[t]? = some (cl, .object r.1)) (hv : L k' i' = some (v, .inr (ci, vs))) (hc : vwCl[ci]? = some r) {z : Int} (j : Nat) (hj : z = (j : Int)) (h2 : j < n) (h3 : n < 2147483648) (d : decode cc pc = .ok (.aastore, 1))
    (kk : ∀ (H : Heap) (locs : List Loc), zX D B0 (zu L k i (some (a, .inl (cl, n, .inr (.inr (.inr (.inr (va_up f j (some v))))))))) s.heap H locs → W p l e R s m args below meth c H locs cells slots Q (F0 m (pc + 1) ls rest)) : W p l e R s m args below meth c H locs cells slots Q (F0 m pc ls (.ref v :: .int (i32 z) :: .ref a :: rest)) := by
  have hin := i32_inN hj h2 h3
  have hlt : (i32 z).toNatClampNeg < n := Nat.not_le.mp fun q => hin (Or.inr q)
  have h0 : ¬ i32 z < 0 := fun q => hin (Or.inl q)
  obtain ⟨r', hr', cellV, g1, g2, g3, -⟩ := (X.1.1 k' i' _ hv).1
  have hcls := (E.2.2.2.2.2.1.1.1 ci r hc).2
  obtain ⟨kA, comp, k1, k2, k3, -⟩ := (E.2.2.2.2.2.1.1.2 t _ ht).2
  have hcomp : comp = D.1 ci := Option.some.inj (k3.symm.trans hcls.1)
  subst hcomp
  obtain ⟨kC, hkC, -⟩ := hcls.2
  refine W.aast E.1 E.2.1 (X.1.1 k i _ h).1 (fun q h => by cases h) (fun h => by cases h) k1 k2 rfl hkC ⟨h0, by show _ < (arrV _ _ _).slots.size; rw [arrV_size]; exact hlt⟩ g1 (fun q h => by rw [g3] at h; cases h) (by rw [g2]; exact hkC) (by rw [g2]; exact va_assign hcls) rfl rfl d fun H1 e1 hz oq => ?_
  refine kk H1 _ (X.put h ?_ hz oq)
  show H1[a]? = some (vp_cell _ _)
  rw [e1, ← i32_clampN hj (by omega), vp_cell_q, vp_cell_q, arrV_store]
  congr 2
  funext q
  by_cases hq : q = (i32 z).toNatClampNeg
  · subst hq
    simp [updV, va_up, va_rf]
  · simp [updV, va_up, hq]
theorem z_aastN (E : zE p s m args meth c cc own nm ws ml ret D cA) (X : zX D B0 L s.heap H locs) {k i a n : Nat} (t : Nat) {cl : ClassId} {C : String} {f : Nat → Option Nat} (h : L k i = some (a, .inl (cl, n, .inr (.inr (.inr (.inr f)))))) (ht : (ztys cA)[t]? = some (cl, .object C)) {z : Int} (j : Nat) (hj : z = (j : Int)) (h2 : j < n) (h3 : n < 2147483648) (d : decode cc pc = .ok (.aastore, 1))
    (kk : ∀ (H : Heap) (locs : List Loc), zX D B0 (zu L k i (some (a, .inl (cl, n, .inr (.inr (.inr (.inr (va_up f j none)))))))) s.heap H locs → W p l e R s m args below meth c H locs cells slots Q (F0 m (pc + 1) ls rest)) : W p l e R s m args below meth c H locs cells slots Q (F0 m pc ls (.null :: .int (i32 z) :: .ref a :: rest)) := by
  have hin := i32_inN hj h2 h3
  refine va_WaastN (C := C) E.1 E.2.1 (X.1.1 k i _ h).1 ((E.2.2.2.2.2.1.1.2 t _ ht).1 n (fun j => va_rf (f j))) (fun h => by cases h) (by show ¬ (i32 z < 0 ∨ (arrV _ _ _).slots.size ≤ _); rw [arrV_size]; exact hin) rfl rfl d fun H1 e1 hz oq => ?_
  refine kk H1 _ (X.put h ?_ hz oq)
  show H1[a]? = some (vp_cell _ _)
  rw [e1, ← i32_clampN hj (by omega), vp_cell_q, vp_cell_q, arrV_store]
  congr 2
  funext q
  by_cases hq : q = (i32 z).toNatClampNeg
  · subst hq
    simp [updV, va_up, va_rf]
  · simp [updV, va_up, hq]
/-! new ones, at a place that is chosen here -/
theorem zX.push {D : va_G} {B0 : Nat} {L : zL} {H0 H H1 : Heap} {locs : List Loc} {a : Nat} {e : va_E} (k i : Nat) (w : zX D B0 L H0 H locs) (ha : a = H.size) (he : va_at D vwCl (a, e) H1) (hz : H1.size = H.size + 1) (oq : ∀ q : Nat, q < H.size → H1[q]? = H[q]?) : zX D B0 (zu L k i (some (a, e))) H0 H1 locs :=
  ⟨w.1.push k i ha he hz oq, Nat.le_trans w.2.1 (by omega), fun q h1 h2 => (oq q (Nat.lt_of_lt_of_le h1 w.2.1)).trans (w.2.2.1 q h1 h2), w.2.2.2⟩
theorem z_new (E : zE p s m args meth c cc own nm ws ml ret D cA) (X : zX D B0 L s.heap H locs) (k i ci : Nat) {C : String} {T : u_T} {N index : Nat} (hc : vwCl[ci]? = some (C, T, N)) (hin : ∀ w ∈ u_ws C T N, w ∈ ws) (ty : Nat → FieldType) (hty : ∀ k, k < N → parseFieldDescriptor (T k).2.2.1 = some (ty k)) (hcl : Cond.classLink own index C ∈ ws) (hinst : Cond.instantiable C N ∈ ws) (hini : Cond.initialized C ∈ ws) {fs : List Value} (hfs : ∀ j, j < N → defaultValue (ty j) = vp_V fs j) (hcells : cells + 1 ≤ R.cells) (hslots : slots + N ≤ R.slots) (d : decode cc pc = .ok (.new index, 3))
    (kk : ∀ (q : Nat) (H : Heap), zX D B0 (zu L k i (some (q, .inr (ci, fs)))) s.heap H locs → W p l e R s m args below meth c H locs (cells + 1) (slots + N) Q (F0 m (pc + 3) ls (.ref q :: rest))) : W p l e R s m args below meth c H locs cells slots Q (F0 m pc ls rest) := by
  have hts := E.2.2.2.2.1
  have hKn := E.2.2.2.2.2.1.1.1 ci _ hc
  refine W.newcK E.1 E.2.1 E.2.2.2.1 (hts _ hcl) (hts _ hinst) (hts _ hini) rfl d hcells hslots hKn.2.1 rfl fun H1 kC hkC e1 z1 o1 => ?_
  exact kk H.size H1 (X.push k i rfl ⟨_, hc, (u_born ty hts hin hKn hkC e1 hty).to hfs⟩ z1 o1)
theorem z_newi (E : zE p s m args meth c cc own nm ws ml ret D cA) (X : zX D B0 L s.heap H locs) (k i : Nat) (harr : Cond.arrayClass .int ∈ ws) {z : Int} {N : Nat} (hz : z = N) (hb : N ≤ 100000) (hcells : cells + 1 ≤ R.cells) (hslots : slots + N ≤ R.slots) (d : decode cc pc = .ok (.newarray .int, 2))
    (kk : ∀ (q : Nat) (H : Heap), zX D B0 (zu L k i (some (q, .inl (cA 0, N, .inl (fun _ => i32 0))))) s.heap H locs → W p l e R s m args below meth c H locs (cells + 1) (slots + N) Q (F0 m (pc + 2) ls (.ref q :: rest))) : W p l e R s m args below meth c H locs cells slots Q (F0 m pc ls (.int (i32 z) :: rest)) := by
  have hts := E.2.2.2.2.1
  have hRA : va_RA s (cA 0) .int := (E.2.2.2.2.2.1.1.2 0 _ rfl).2
  refine va_newaK (N := N) E.1 E.2.1 (atype := .int) (hts _ harr) rfl d rfl ?_ ?_ ?_ hcells hslots rfl fun H1 cB e1 z1 o1 hAr hNm => ?_
  · intro h
    rw [i32_0, i32_lt ⟨by omega, by omega⟩ zr0] at h
    omega
  · rw [i32_clamp (by omega) (by omega)]
    omega
  · show N * 4 ≤ 536870912
    omega
  · have hcB : cB = cA 0 := Option.some.inj (hNm.symm.trans hRA)
    subst hcB
    exact kk H.size H1 (X.push k i rfl e1 z1 o1)
theorem z_newz (E : zE p s m args meth c cc own nm ws ml ret D cA) (X : zX D B0 L s.heap H locs) (k i : Nat) (harr : Cond.arrayClass .boolean ∈ ws) {z : Int} {N : Nat} (hz : z = N) (hb : N ≤ 100000) (hcells : cells + 1 ≤ R.cells) (hslots : slots + N ≤ R.slots) (d : decode cc pc = .ok (.newarray .boolean, 2))
    (kk : ∀ (q : Nat) (H : Heap), zX D B0 (zu L k i (some (q, .inl (cA 1, N, .inl (fun _ => i32 0))))) s.heap H locs → W p l e R s m args below meth c H locs (cells + 1) (slots + N) Q (F0 m (pc + 2) ls (.ref q :: rest))) : W p l e R s m args below meth c H locs cells slots Q (F0 m pc ls (.int (i32 z) :: rest)) := by
  have hts := E.2.2.2.2.1
  have hRA : va_RA s (cA 1) .boolean := (E.2.2.2.2.2.1.1.2 1 _ rfl).2
  refine va_newaK (N := N) E.1 E.2.1 (atype := .boolean) (hts _ harr) rfl d rfl ?_ ?_ ?_ hcells hslots rfl fun H1 cB e1 z1 o1 hAr hNm => ?_
  · intro h
    rw [i32_0, i32_lt ⟨by omega, by omega⟩ zr0] at h
    omega
  · rw [i32_clamp (by omega) (by omega)]
    omega
  · show N * 1 ≤ 536870912
    omega
  · have hcB : cB = cA 1 := Option.some.inj (hNm.symm.trans hRA)
    subst hcB
    exact kk H.size H1 (X.push k i rfl e1 z1 o1)
theorem z_anew (E : zE p s m args meth c cc own nm ws ml ret D cA) (X : zX D B0 L s.heap H locs) (k i t : Nat) {C : String} {index : Nat} {cl : ClassId} (ht : (ztys cA)[t]? = some (cl, .object C)) (hcl : Cond.classLink own index C ∈ ws) (hov : va_AO C s) {z : Int} {N : Nat} (hz : z = N) (hb : N ≤ 100000) (hcells : cells + 1 ≤ R.cells) (hslots : slots + N ≤ R.slots) (d : decode cc pc = .ok (.anewarray index, 3))
    (kk : ∀ (q : Nat) (H : Heap), zX D B0 (zu L k i (some (q, .inl (cl, N, .inr (.inr (.inr (.inr (fun _ => none)))))))) s.heap H locs → W p l e R s m args below meth c H locs (cells + 1) (slots + N) Q (F0 m (pc + 3) ls (.ref q :: rest))) : W p l e R s m args below meth c H locs cells slots Q (F0 m pc ls (.int (i32 z) :: rest)) := by
  have hts := E.2.2.2.2.1
  obtain ⟨kA0, comp0, r1, r2, r3, r4⟩ := (E.2.2.2.2.2.1.1.2 t _ ht).2
  have hcl0 : (i32 z).toNatClampNeg = N := by
    rw [i32_clamp (by omega) (by omega)]
    omega
  refine W.anew E.1 E.2.1 E.2.2.2.1 (hts _ hcl) hov.use rfl d rfl ?_ ?_ hcells ?_ fun cB kA comp h1 h2 h3 h4 => ?_
  · intro h
    rw [i32_0, i32_lt ⟨by omega, by omega⟩ zr0] at h
    omega
  · rw [hcl0]
    omega
  · rw [hcl0]
    exact hslots
  · have hcB : cB = cl := Option.some.inj (h1.symm.trans r4)
    subst hcB
    rw [hcl0]
    refine kk H.size _ (X.push k i rfl ?_ (by simp) (fun q hq => by rw [Array.getElem?_push, if_neg (Nat.ne_of_lt hq)]))
    show (H.push _)[H.size]? = some (vp_cell _ _)
    rw [Array.getElem?_push, if_pos rfl, vp_cell_q]
    unfold arrV
    congr 2
    apply Array.ext
    · simp
    · intro j h1 h2
      simp [va_rf]
/-! ends -/
theorem z_ret (E : zE p s m args meth c cc own nm ws ml (some .int) D cA) (X : zX D B0 L s.heap H locs) (hQ : Q = MQ below (zQ B0 post) args s cells slots (fun q => B0 ≤ q)) {z : Int} (hp : post (some (.int (i32 z))) H) (d : decode cc pc = .ok (.ireturn, 1)) : W p l e R s m args below meth c H locs cells slots Q (F0 m pc ls [.int (i32 z)]) := by
  subst hQ
  exact W.iret E.1 E.2.1 E.2.2.2.2.2.2.2.1 (fun t ht hW => ⟨⟨_, rfl, by rw [ht]; exact hp⟩, X.2.F ht⟩) X.2.2.2 d E.2.2.2.2.2.2.1
theorem z_retz (E : zE p s m args meth c cc own nm ws ml (some .boolean) D cA) (X : zX D B0 L s.heap H locs) (hQ : Q = MQ below (zQ B0 post) args s cells slots (fun q => B0 ≤ q)) {z : Int} (hz : z = 0 ∨ z = 1) (hp : post (some (.int (i32 z))) H) (d : decode cc pc = .ok (.ireturn, 1)) : W p l e R s m args below meth c H locs cells slots Q (F0 m pc ls [.int (i32 z)]) := by
  subst hQ
  exact W.zret E.1 E.2.1 E.2.2.2.2.2.2.2.1 (z_nb hz).1 (fun t ht hW => ⟨⟨_, rfl, by rw [ht]; exact hp⟩, X.2.F ht⟩) X.2.2.2 d E.2.2.2.2.2.2.1
theorem z_retl (E : zE p s m args meth c cc own nm ws ml (some .long) D cA) (hS : va_S (fun q => B0 ≤ q) s.heap H locs) (hQ : Q = MQ below (zQ B0 post) args s cells slots (fun q => B0 ≤ q)) {z : Int} (hp : post (some (.long (i64 z))) H) (d : decode cc pc = .ok (.lreturn, 1)) : W p l e R s m args below meth c H locs cells slots Q (F0 m pc ls [.long (i64 z)]) := by
  subst hQ
  exact W.lret E.1 E.2.1 E.2.2.2.2.2.2.2.1 (fun t ht hW => ⟨⟨_, rfl, by rw [ht]; exact hp⟩, hS.F ht⟩) hS.2.2 d E.2.2.2.2.2.2.1
theorem z_retv (E : zE p s m args meth c cc own nm ws ml none D cA) (X : zX D B0 L s.heap H locs) (hQ : Q = MQ below (zQ B0 post) args s cells slots (fun q => B0 ≤ q)) (hp : post none H) (d : decode cc pc = .ok (.return_, 1)) : W p l e R s m args below meth c H locs cells slots Q (F0 m pc ls []) := by
  subst hQ
  exact W.vret E.1 E.2.1 E.2.2.2.2.2.2.2.1 (fun t ht hW => ⟨⟨_, rfl, by rw [ht]; exact hp⟩, X.2.F ht⟩) X.2.2.2 d E.2.2.2.2.2.2.1
theorem z_reta {C : String} {v : Value} (E : zE p s m args meth c cc own nm ws ml (some (.object C)) D cA) (X : zX D B0 L s.heap H locs) (hQ : Q = MQ below (zQ B0 post) args s cells slots (fun q => B0 ≤ q)) (hv : v = .null ∨ ∃ a, v = .ref a) (hp : post (some v) H) (d : decode cc pc = .ok (.areturn, 1)) : W p l e R s m args below meth c H locs cells slots Q (F0 m pc ls [v]) := by
  subst hQ
  exact W.aret E.1 E.2.1 E.2.2.2.2.2.2.2.1 (Or.inl ⟨_, rfl⟩) hv (fun t ht hW => ⟨⟨_, rfl, by rw [ht]; exact hp⟩, X.2.F ht⟩) X.2.2.2 d E.2.2.2.2.2.2.1
/-! calls -/
theorem zblind {av : List Value} {P : Heap → Prop} : FrameBlind (va_Pc av (fun U => P U.heap ∧ B0 ≤ U.heap.size ∧ zN D cA U)) := fun _ _ _ _ h => ⟨h.1, h.2.1, h.2.2.1, h.2.2.2.calling⟩
theorem z_go {rest st0 : List Value} {a : Array Value} {mc ms : Nat} {H0 : Heap} (hr : va_Run p l e R s m args below meth c H locs cells slots mc ms (F0 m pc ls st0) rest (zQ B0 post a) (fun q => B0 ≤ q)) (hS : va_S (fun q => B0 ≤ q) H0 H locs)
    (kk : ∀ (v : Option Value) (H1 : Heap) (locs1 : List Loc), post v H1 → va_S (fun q => B0 ≤ q) H0 H1 locs1 → W p l e R s m args below meth c H1 locs1 (cells + mc) (slots + ms) Q (F0 m (pc + 3) ls (v.toList ++ rest))) : W p l e R s m args below meth c H locs cells slots Q (F0 m pc ls st0) := by
  intro T hT X
  obtain ⟨v, st₀, t, T', L, h0, X', hL, e1, e2, ⟨⟨v', hv, hp⟩, hz, hk⟩, st⟩ := hr T hT X
  cases hv
  rw [h0] at hz hk
  obtain ⟨t2, a1, b1⟩ := kk v T'.heap (locs ++ L) (by rw [e1]; exact hp)
    ⟨Nat.le_trans hS.1 (by rw [e1]; exact hz), fun q h1 h2 => by rw [e1, hk q (Nat.lt_of_lt_of_le h1 hS.1) h2]; exact hS.2.1 q h1 h2, fun q hq => by
      rcases List.mem_append.mp hq with h | h
      · exact hS.2.2 q h
      · exact hL q h⟩ T' rfl X'
  exact ⟨t2, st t2 a1, b1⟩
theorem z_callV (E : zE p s m args meth c cc own nm ws ml ret D cA) (X : zX D B0 L s.heap H locs) {k i a ci : Nat} {fs : List Value} {q : vw_C} (hrc : L k i = some (a, .inr (ci, fs))) (hc : vwCl[ci]? = some q) {y : MethodName} {wc : List Cond} {rm : Room} {As rest st : List Value} {P : Heap → Prop} {post : Option Value → Heap → Prop} {index n maxL : Nat} {bytes : ByteArray} {rt : Option FieldType} {wc' : List Cond}
    (hM : zM l y wc rm (.ref a :: As) D cA B0 P post) (hG : GoodIn ws (wsV own index q.1 y wc)) (hw : wc = Cond.code y bytes maxL rt :: wc') (hd : y.cls = q.1 ∧ y.cls ≠ "java/lang/invoke/MethodHandle" ∧ y.cls ≠ "java/lang/invoke/VarHandle" ∧ (parseMethodDescriptor y.desc).map (fun d => d.parameters.length) = some n) (hR : rm.frames + 1 ≤ R.frames ∧ 8 + (maxL + 11) + rm.locals ≤ R.locals)
    (hn : As.length = n) (hsz : ls.size = ml) (hst : st = As.reverse ++ .ref a :: rest) (hW : (rest.map fun v => v.category).sum ≤ 8) (d : decode cc pc = .ok (.invokevirtual index, 3)) (hcl : cells + rm.cells ≤ R.cells ∧ slots + rm.slots ≤ R.slots) (hP : P H)
    (c' s' : Nat) (hcs : cells + rm.cells = c' ∧ slots + rm.slots = s')
    (kk : ∀ (v : Option Value) (H : Heap) (locs : List Loc), post v H → va_S (fun q => B0 ≤ q) s.heap H locs → W p l e R s m args below meth c H locs c' s' Q (F0 m (pc + 3) ls (v.toList ++ rest))) : W p l e R s m args below meth c H locs cells slots Q (F0 m pc ls st) := by
  subst hst
  obtain ⟨rfl, rfl⟩ := hcs
  refine z_go (va_runV (rest := rest) ⟨E.1, E.2.1, E.2.2.1, E.2.2.2.1, E.2.2.2.2.1⟩ hM (cwV n E.2.2.2.2.1 hG hw rfl rfl hd hR) ⟨zblind, va_recv E.2.2.2.2.2.1.1 (X.1.P hrc) hc (q0 := 0) rfl, fun U hU hWU => ⟨rfl, by rw [hU]; exact hP, by rw [hU]; exact X.1.2.2, E.2.2.2.2.2.1.warm hWU⟩⟩ rfl hn hsz rfl (lv_room hW) d hcl) X.2 kk
theorem z_callS (E : zE p s m args meth c cc own nm ws ml ret D cA) (X : zX D B0 L s.heap H locs) {y : MethodName} {wc : List Cond} {rm : Room} {As rest st : List Value} {P : Heap → Prop} {post : Option Value → Heap → Prop} {index n maxL : Nat} {bytes : ByteArray} {rt : Option FieldType} {wc' : List Cond}
    (hM : zM l y wc rm As D cA B0 P post) (hG : GoodIn ws (wsS own index y wc)) (hw : wc = Cond.code y bytes maxL rt :: wc') (hd : y.cls = own ∧ y.cls ≠ "java/lang/invoke/MethodHandle" ∧ y.cls ≠ "java/lang/invoke/VarHandle" ∧ (parseMethodDescriptor y.desc).map (fun d => d.parameters.length) = some n) (hR : rm.frames + 1 ≤ R.frames ∧ 8 + (maxL + 11) + rm.locals ≤ R.locals)
    (hn : As.length = n) (hsz : ls.size = ml) (hst : st = As.reverse ++ rest) (hW : (rest.map fun v => v.category).sum ≤ 8) (d : decode cc pc = .ok (.invokestatic index, 3)) (hcl : cells + rm.cells ≤ R.cells ∧ slots + rm.slots ≤ R.slots) (hP : P H)
    (c' s' : Nat) (hcs : cells + rm.cells = c' ∧ slots + rm.slots = s')
    (kk : ∀ (v : Option Value) (H : Heap) (locs : List Loc), post v H → va_S (fun q => B0 ≤ q) s.heap H locs → W p l e R s m args below meth c H locs c' s' Q (F0 m (pc + 3) ls (v.toList ++ rest))) : W p l e R s m args below meth c H locs cells slots Q (F0 m pc ls st) := by
  subst hst
  obtain ⟨rfl, rfl⟩ := hcs
  refine z_go (va_runS (rest := rest) ⟨E.1, E.2.1, E.2.2.1, E.2.2.2.1, E.2.2.2.2.1⟩ hM (cwS n E.2.2.2.2.1 hG hw rfl rfl hd hR) ⟨zblind, fun U hU hWU => ⟨rfl, by rw [hU]; exact hP, by rw [hU]; exact X.1.2.2, E.2.2.2.2.2.1.warm hWU⟩⟩ rfl hn hsz rfl (lv_room hW) d hcl) X.2 kk
theorem z_callJ (E : zE p s m args meth c cc own nm ws ml ret D cA) (X : zX D B0 L s.heap H locs) {y : MethodName} {wc : List Cond} {rm : Room} {As rest st : List Value} {P : Heap → Prop} {post : Option Value → Heap → Prop} {index n maxL : Nat} {bytes : ByteArray} {rt : Option FieldType} {wc' : List Cond}
    (hM : zM l y wc rm As D cA B0 P post) (hG : GoodIn ws (va_wsS own index y wc)) (hw : wc = Cond.code y bytes maxL rt :: wc') (hd : y.cls ≠ "java/lang/invoke/MethodHandle" ∧ y.cls ≠ "java/lang/invoke/VarHandle" ∧ (parseMethodDescriptor y.desc).map (fun d => d.parameters.length) = some n) (hR : rm.frames + 1 ≤ R.frames ∧ 8 + (maxL + 11) + rm.locals ≤ R.locals)
    (hn : As.length = n) (hsz : ls.size = ml) (hst : st = As.reverse ++ rest) (hW : (rest.map fun v => v.category).sum ≤ 8) (d : decode cc pc = .ok (.invokestatic index, 3)) (hcl : cells + rm.cells ≤ R.cells ∧ slots + rm.slots ≤ R.slots) (hP : P H)
    (c' s' : Nat) (hcs : cells + rm.cells = c' ∧ slots + rm.slots = s')
    (kk : ∀ (v : Option Value) (H : Heap) (locs : List Loc), post v H → va_S (fun q => B0 ≤ q) s.heap H locs → W p l e R s m args below meth c H locs c' s' Q (F0 m (pc + 3) ls (v.toList ++ rest))) : W p l e R s m args below meth c H locs cells slots Q (F0 m pc ls st) := by
  subst hst
  obtain ⟨rfl, rfl⟩ := hcs
  refine z_go (va_runS (rest := rest) ⟨E.1, E.2.1, E.2.2.1, E.2.2.2.1, E.2.2.2.2.1⟩ hM (va_cwS n E.2.2.2.2.1 hG hw rfl rfl hd hR) ⟨zblind, fun U hU hWU => ⟨rfl, by rw [hU]; exact hP, by rw [hU]; exact X.1.2.2, E.2.2.2.2.2.1.warm hWU⟩⟩ rfl hn hsz rfl (lv_room hW) d hcl) X.2 kk
theorem z_callN (E : zE p s m args meth c cc RX1 nm ws ml ret D cA) (X : zX D B0 L s.heap H locs) {wc : List Cond} {rm : Room} {As rest st : List Value} {P : Heap → Prop} {post : Option Value → Heap → Prop} {n maxL : Nat} {bytes : ByteArray} {rt : Option FieldType} {wc' : List Cond}
    (hM : zM l yX5_outside wc rm As D cA B0 P post) (hG : GoodIn ws wc) (hw : wc = Cond.code yX5_outside bytes maxL rt :: wc') (hini : Cond.initialized RX5 ∈ ws) (hstt : Cond.static yX5_outside ∈ ws) (hd : (parseMethodDescriptor yX5_outside.desc).map (fun d => d.parameters.length) = some n) (hR : rm.frames + 1 ≤ R.frames ∧ 8 + (maxL + 11) + rm.locals ≤ R.locals)
    (hn : As.length = n) (hsz : ls.size = ml) (hst : st = As.reverse ++ rest) (hW : (rest.map fun v => v.category).sum ≤ 8) (d : decode cc pc = .ok (.invokestatic 43, 3)) (hcl : cells + rm.cells ≤ R.cells ∧ slots + rm.slots ≤ R.slots) (hP : P H)
    (c' s' : Nat) (hcs : cells + rm.cells = c' ∧ slots + rm.slots = s')
    (kk : ∀ (v : Option Value) (H : Heap) (locs : List Loc), post v H → va_S (fun q => B0 ≤ q) s.heap H locs → W p l e R s m args below meth c H locs c' s' Q (F0 m (pc + 3) ls (v.toList ++ rest))) : W p l e R s m args below meth c H locs cells slots Q (F0 m pc ls st) := by
  subst hst
  obtain ⟨rfl, rfl⟩ := hcs
  refine z_go (va_runSN (rest := rest) ⟨E.1, E.2.1, E.2.2.1, E.2.2.2.1, E.2.2.2.2.1⟩ hM ⟨va_cnB n E.2.2.2.2.1 hG hw rfl rfl E.2.2.2.2.2.1.2.1 (E.2.2.2.2.1 _ hini) ⟨by decide +kernel, by decide +kernel, hd⟩ hR, E.2.2.2.2.1 _ hstt, trivial⟩ ⟨zblind, fun U hU hWU => ⟨rfl, by rw [hU]; exact hP, by rw [hU]; exact X.1.2.2, E.2.2.2.2.2.1.warm hWU⟩⟩ rfl hn hsz rfl (lv_room hW) d hcl) X.2 kk
theorem z_callI (E : zE p s m args meth c cc own nm ws ml ret D cA) (X : zX D B0 L s.heap H locs) {a : Nat} {y : MethodName} {wc : List Cond} {rm : Room} {As rest st : List Value} {P : Heap → Prop} {post : Option Value → Heap → Prop} {index n maxL : Nat} {bytes : ByteArray} {wc' : List Cond}
    (hM : zM l y wc rm (.ref a :: As) D cA B0 P post) (hG : GoodIn ws wc) (hw : wc = Cond.code y bytes maxL none :: wc') (hini : Cond.initialized y.cls ∈ ws) (hl : Cond.methodLink own index y ∈ ws) (him : Cond.instanceMethod y ∈ ws) (hy1 : y.name = "<init>") (hd : y.cls ≠ "java/lang/invoke/MethodHandle" ∧ y.cls ≠ "java/lang/invoke/VarHandle" ∧ (parseMethodDescriptor y.desc).map (fun d => d.parameters.length) = some n) (hR : rm.frames + 1 ≤ R.frames ∧ 8 + (maxL + 11) + rm.locals ≤ R.locals)
    (hn : As.length = n) (hsz : ls.size = ml) (hst : st = As.reverse ++ .ref a :: rest) (hW : (rest.map fun v => v.category).sum ≤ 8) (d : decode cc pc = .ok (.invokespecial index, 3)) (hcl : cells + rm.cells ≤ R.cells ∧ slots + rm.slots ≤ R.slots) (hP : P H)
    (c' s' : Nat) (hcs : cells + rm.cells = c' ∧ slots + rm.slots = s')
    (kk : ∀ (v : Option Value) (H : Heap) (locs : List Loc), post v H → va_S (fun q => B0 ≤ q) s.heap H locs → W p l e R s m args below meth c H locs c' s' Q (F0 m (pc + 3) ls (v.toList ++ rest))) : W p l e R s m args below meth c H locs cells slots Q (F0 m pc ls st) := by
  subst hst
  obtain ⟨rfl, rfl⟩ := hcs
  refine z_go (va_runI (rest := rest) ⟨E.1, E.2.1, E.2.2.1, E.2.2.2.1, E.2.2.2.2.1⟩ hM (cwI n E.2.2.2.2.1 hG hw rfl rfl (E.2.2.2.2.1 _ hini) (E.2.2.2.2.1 _ hl) (E.2.2.2.2.1 _ him) hy1 hd hR) ⟨zblind, fun U hU hWU => ⟨rfl, by rw [hU]; exact hP, by rw [hU]; exact X.1.2.2, E.2.2.2.2.2.1.warm hWU⟩⟩ rfl hn hsz rfl (lv_room hW) d hcl) X.2 kk
theorem z_obj (E : zE p s m args meth c cc own nm ws ml ret D cA) {a idx : Nat} (hl : Cond.methodLink own idx objectInit ∈ ws) (him : Cond.instanceMethod objectInit ∈ ws) (hcd : Cond.code objectInit ⟨#[0xb1]⟩ 1 none ∈ ws) (hsz : ls.size = ml) (d : decode cc pc = .ok (.invokespecial idx, 3)) (hfr : 1 ≤ R.frames) (hlo : (rest.map fun v => v.category).sum + 12 ≤ R.locals)
    (kk : W p l e R s m args below meth c H locs cells slots Q (F0 m (pc + 3) ls rest)) : W p l e R s m args below meth c H locs cells slots Q (F0 m pc ls (.ref a :: rest)) :=
  W.objInit E.1 E.2.1 E.2.2.2.1 (E.2.2.2.2.1 _ hl) (E.2.2.2.2.1 _ him) (E.2.2.2.2.1 _ hcd) rfl (by rw [E.2.2.1]; exact hsz) rfl d hfr (by show 2 * 0 + _ + 12 ≤ _; omega) kk
/-! Math over ints -/
def zmax (a b : Int) : Int := if a < b then b else a
def zmin (a b : Int) : Int := if b < a then b else a
def zabs (a : Int) : Int := if 0 ≤ a then a else -a
theorem z_mmax (E : zE p s m args meth c cc own nm ws ml ret D cA) {index : Nat} {a b : Int} (ha : zr a) (hb : zr b) (hl : Cond.methodLink own index Lib.Math.max.name ∈ ws) (h2 : Cond.static Lib.Math.max.name ∈ ws) (h3 : Cond.initialized "java/lang/Math" ∈ ws) (h4 : Cond.code Lib.Math.max.name Lib.Math.max.code 2 (some .int) ∈ ws) (hsz : ls.size = ml) (hfr : 1 ≤ R.frames) (hlo : (rest.map fun v => v.category).sum + 13 ≤ R.locals) (hcl : cells ≤ R.cells ∧ slots ≤ R.slots) (d : decode cc pc = .ok (.invokestatic index, 3))
    (kk : W p l e R s m args below meth c H locs cells slots Q (F0 m (pc + 3) ls (.int (i32 (zmax a b)) :: rest))) : W p l e R s m args below meth c H locs cells slots Q (F0 m pc ls (.int (i32 b) :: .int (i32 a) :: rest)) := by
  refine va_mmax E.1 E.2.1 (E.2.2.1.trans hsz.symm) E.2.2.2.1 (E.2.2.2.2.1 _ hl) (E.2.2.2.2.1 _ h2) (E.2.2.2.2.1 _ h3) (E.2.2.2.2.1 _ h4) hfr hlo hcl.1 hcl.2 d ?_
  have e : (if i32 a < i32 b then i32 b else i32 a) = i32 (zmax a b) := by
    unfold zmax
    by_cases h : a < b
    · rw [if_pos ((i32_lt ha hb).mpr h), if_pos h]
    · rw [if_neg (fun q => h ((i32_lt ha hb).mp q)), if_neg h]
  rw [e]
  exact kk
theorem z_mmin (E : zE p s m args meth c cc own nm ws ml ret D cA) {index : Nat} {a b : Int} (ha : zr a) (hb : zr b) (hl : Cond.methodLink own index Lib.Math.min.name ∈ ws) (h2 : Cond.static Lib.Math.min.name ∈ ws) (h3 : Cond.initialized "java/lang/Math" ∈ ws) (h4 : Cond.code Lib.Math.min.name Lib.Math.min.code 2 (some .int) ∈ ws) (hsz : ls.size = ml) (hfr : 1 ≤ R.frames) (hlo : (rest.map fun v => v.category).sum + 13 ≤ R.locals) (hcl : cells ≤ R.cells ∧ slots ≤ R.slots) (d : decode cc pc = .ok (.invokestatic index, 3))
    (kk : W p l e R s m args below meth c H locs cells slots Q (F0 m (pc + 3) ls (.int (i32 (zmin a b)) :: rest))) : W p l e R s m args below meth c H locs cells slots Q (F0 m pc ls (.int (i32 b) :: .int (i32 a) :: rest)) := by
  refine va_mmin E.1 E.2.1 (E.2.2.1.trans hsz.symm) E.2.2.2.1 (E.2.2.2.2.1 _ hl) (E.2.2.2.2.1 _ h2) (E.2.2.2.2.1 _ h3) (E.2.2.2.2.1 _ h4) hfr hlo hcl.1 hcl.2 d ?_
  have e : (if i32 b < i32 a then i32 b else i32 a) = i32 (zmin a b) := by
    unfold zmin
    by_cases h : b < a
    · rw [if_pos ((i32_lt hb ha).mpr h), if_pos h]
    · rw [if_neg (fun q => h ((i32_lt hb ha).mp q)), if_neg h]
  rw [e]
  exact kk
theorem z_mabs (E : zE p s m args meth c cc own nm ws ml ret D cA) {index : Nat} {a : Int} (ha : zr a) (hl : Cond.methodLink own index Lib.Math.abs.name ∈ ws) (h2 : Cond.static Lib.Math.abs.name ∈ ws) (h3 : Cond.initialized "java/lang/Math" ∈ ws) (h4 : Cond.code Lib.Math.abs.name Lib.Math.abs.code 1 (some .int) ∈ ws) (hsz : ls.size = ml) (hfr : 1 ≤ R.frames) (hlo : (rest.map fun v => v.category).sum + 13 ≤ R.locals) (hcl : cells ≤ R.cells ∧ slots ≤ R.slots) (d : decode cc pc = .ok (.invokestatic index, 3))
    (kk : W p l e R s m args below meth c H locs cells slots Q (F0 m (pc + 3) ls (.int (i32 (zabs a)) :: rest))) : W p l e R s m args below meth c H locs cells slots Q (F0 m pc ls (.int (i32 a) :: rest)) := by
  refine va_mabs E.1 E.2.1 (E.2.2.1.trans hsz.symm) E.2.2.2.1 (E.2.2.2.2.1 _ hl) (E.2.2.2.2.1 _ h2) (E.2.2.2.2.1 _ h3) (E.2.2.2.2.1 _ h4) hfr hlo hcl.1 hcl.2 d ?_
  have e : (if 0 ≤ i32 a then i32 a else 0 - i32 a) = i32 (zabs a) := by
    unfold zabs
    by_cases h : 0 ≤ a
    · rw [if_pos (by rw [i32_0]; exact (i32_le zr0 ha).mpr h), if_pos h]
    · rw [if_neg (fun q => h ((i32_le zr0 ha).mp (by rw [← i32_0]; exact q))), if_neg h, i32_0, i32_sub]
      congr 1
      omega
  rw [e]
  exact kk
end ZH
