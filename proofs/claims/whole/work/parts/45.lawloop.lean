set_option maxHeartbeats 4000000 in
set_option maxRecDepth 100000 in
theorem law_turn {p : Program} {l : Launch} {e : Env} {s : State} {m : MethodId} {below : List Frame} {meth : Method} {c : Code} {D : va_G} {cA : Nat → ClassId} {b N : Nat} {xs : Nat → Int32} (E : zE p s m #[Value.ref b] meth c cL_law RL meth.name wsL_law 4 ret D cA) (hX : va_X b N xs s s.heap) (hbl : b < s.heap.size) (hN : N ≤ 3072) {n : Nat} (hn : 6 * n + 6 ≤ N) {q0 q1 : Nat} {a : Nat → Nat → Nat} {am : Nat → Nat} {G : zG} {S U : zS} {H : Heap} {locs : List Loc} {ls : Array Slot} (X : zX D s.heap.size (zj (layC cA a G S) (layM cA am S U)) s.heap H locs) (hI : SI S) (hG : CG S G) (hC : MC S U) (ha : a 0 0 = q0) (hm : am 0 = q1) (hl : lv_has ls 4 [(0, .ref b), (1, .ref q0), (2, .ref q1), (3, .int (i32 ((6 * n : Nat) : Int)))]) {cells slots : Nat} (hc : cells + 2 ≤ room_1.cells) (hs : slots + 1586 ≤ room_1.slots) {Q : State → Prop} (kk : ∀ (a : Nat → Nat → Nat) (am : Nat → Nat) (G : zG) (S U : zS) (H : Heap) (locs : List Loc) (ls : Array Slot), zX D s.heap.size (zj (layC cA a G S) (layM cA am S U)) s.heap H locs → SI S → CG S G → MC S U → a 0 0 = q0 → am 0 = q1 → lv_has ls 4 [(0, .ref b), (1, .ref q0), (2, .ref q1), (3, .int (i32 ((6 * n : Nat) : Int)))] → W p l e room_1 s m #[Value.ref b] below meth c H locs (cells + 2) (slots + 1586) Q (F0 m 1247 ls [])) : W p l e room_1 s m #[Value.ref b] below meth c H locs cells slots Q (F0 m 27 ls []) := by
  refine lv_aload_n E.1 E.2.1 dL_law_27 rfl (lv_at hl 0 rfl) ?_
  refine lv_iload_n E.1 E.2.1 dL_law_28 rfl (lv_at hl 3 rfl) ?_
  refine z_sld E X hX hbl (6 * n) rfl (by omega) hN rfl dL_law_29 ?_
  refine z_bipush E dL_law_30 (by decide +kernel) ?_
  refine z_iand E dL_law_32 (fun z hz => ?_)
  by_cases h0 : z = 0
  · subst h0
    refine z_tabI E 131 164 dL_law_33 hz (by decide) (by decide) (by decide) (by decide) ?_
    exact lc_body E hX hbl hN hn X hI hG hC ha hm hl hc hs kk
  by_cases h1 : z = 1
  · subst h1
    refine z_tabI E 184 217 dL_law_33 hz (by decide) (by decide) (by decide) (by decide) ?_
    exact lc_element E hX hbl hN hn X hI hG hC ha hm hl hc hs kk
  by_cases h2 : z = 2
  · subst h2
    refine z_tabI E 207 240 dL_law_33 hz (by decide) (by decide) (by decide) (by decide) ?_
    exact lc_lose E hX hbl hN hn X hI hG hC ha hm hl hc hs kk
  by_cases h3 : z = 3
  · subst h3
    refine z_tabI E 256 289 dL_law_33 hz (by decide) (by decide) (by decide) (by decide) ?_
    exact lc_target E hX hbl hN hn X hI hG hC ha hm hl hc hs kk
  by_cases h4 : z = 4
  · subst h4
    refine z_tabI E 319 352 dL_law_33 hz (by decide) (by decide) (by decide) (by decide) ?_
    exact lc_drop E hX hbl hN hn X hI hG hC ha hm hl hc hs kk
  by_cases h5 : z = 5
  · subst h5
    refine z_tabI E 332 365 dL_law_33 hz (by decide) (by decide) (by decide) (by decide) ?_
    exact lc_taken E hX hbl hN hn X hI hG hC ha hm hl hc hs kk
  by_cases h6 : z = 6
  · subst h6
    refine z_tabI E 375 408 dL_law_33 hz (by decide) (by decide) (by decide) (by decide) ?_
    exact lc_time E hX hbl hN hn X hI hG hC ha hm hl hc hs kk
  by_cases h7 : z = 7
  · subst h7
    refine z_tabI E 418 451 dL_law_33 hz (by decide) (by decide) (by decide) (by decide) ?_
    exact lc_bend E hX hbl hN hn X hI hG hC ha hm hl hc hs kk
  by_cases h8 : z = 8
  · subst h8
    refine z_tabI E 461 494 dL_law_33 hz (by decide) (by decide) (by decide) (by decide) ?_
    exact lc_echoTime E hX hbl hN hn X hI hG hC ha hm hl hc hs kk
  by_cases h9 : z = 9
  · subst h9
    refine z_tabI E 504 537 dL_law_33 hz (by decide) (by decide) (by decide) (by decide) ?_
    exact lc_slowness E hX hbl hN hn X hI hG hC ha hm hl hc hs kk
  by_cases h10 : z = 10
  · subst h10
    refine z_tabI E 547 580 dL_law_33 hz (by decide) (by decide) (by decide) (by decide) ?_
    exact lc_echo E hX hbl hN hn X hI hG hC ha hm hl hc hs kk
  by_cases h11 : z = 11
  · subst h11
    refine z_tabI E 590 623 dL_law_33 hz (by decide) (by decide) (by decide) (by decide) ?_
    exact lc_gate E hX hbl hN hn X hI hG hC ha hm hl hc hs kk
  by_cases h12 : z = 12
  · subst h12
    refine z_tabI E 653 686 dL_law_33 hz (by decide) (by decide) (by decide) (by decide) ?_
    exact lc_focus E hX hbl hN hn X hI hG hC ha hm hl hc hs kk
  by_cases h13 : z = 13
  · subst h13
    refine z_tabI E 686 719 dL_law_33 hz (by decide) (by decide) (by decide) (by decide) ?_
    exact lc_delay E hX hbl hN hn X hI hG hC ha hm hl hc hs kk
  by_cases h14 : z = 14
  · subst h14
    refine z_tabI E 709 742 dL_law_33 hz (by decide) (by decide) (by decide) (by decide) ?_
    exact lc_heard E hX hbl hN hn X hI hG hC ha hm hl hc hs kk
  by_cases h15 : z = 15
  · subst h15
    refine z_tabI E 742 775 dL_law_33 hz (by decide) (by decide) (by decide) (by decide) ?_
    exact lc_sum E hX hbl hN hn X hI hG hC ha hm hl hc hs kk
  by_cases h16 : z = 16
  · subst h16
    refine z_tabI E 765 798 dL_law_33 hz (by decide) (by decide) (by decide) (by decide) ?_
    exact lc_board E hX hbl hN hn X hI hG hC ha hm hl hc hs kk
  by_cases h17 : z = 17
  · subst h17
    refine z_tabI E 798 831 dL_law_33 hz (by decide) (by decide) (by decide) (by decide) ?_
    exact lc_tell E hX hbl hN hn X hI hG hC ha hm hl hc hs kk
  by_cases h18 : z = 18
  · subst h18
    refine z_tabI E 841 874 dL_law_33 hz (by decide) (by decide) (by decide) (by decide) ?_
    exact lc_forget E hX hbl hN hn X hI hG hC ha hm hl hc hs kk
  by_cases h19 : z = 19
  · subst h19
    refine z_tabI E 854 887 dL_law_33 hz (by decide) (by decide) (by decide) (by decide) ?_
    exact lc_places E hX hbl hN hn X hI hG hC ha hm hl hc hs kk
  by_cases h20 : z = 20
  · subst h20
    refine z_tabI E 877 910 dL_law_33 hz (by decide) (by decide) (by decide) (by decide) ?_
    exact lc_place E hX hbl hN hn X hI hG hC ha hm hl hc hs kk
  by_cases h21 : z = 21
  · subst h21
    refine z_tabI E 910 943 dL_law_33 hz (by decide) (by decide) (by decide) (by decide) ?_
    exact lc_sheet E hX hbl hN hn X hI hG hC ha hm hl hc hs kk
  by_cases h22 : z = 22
  · subst h22
    refine z_tabI E 953 986 dL_law_33 hz (by decide) (by decide) (by decide) (by decide) ?_
    exact lc_tear E hX hbl hN hn X hI hG hC ha hm hl hc hs kk
  by_cases h23 : z = 23
  · subst h23
    refine z_tabI E 976 1009 dL_law_33 hz (by decide) (by decide) (by decide) (by decide) ?_
    exact lc_record E hX hbl hN hn X hI hG hC ha hm hl hc hs kk
  by_cases h24 : z = 24
  · subst h24
    refine z_tabI E 1029 1062 dL_law_33 hz (by decide) (by decide) (by decide) (by decide) ?_
    exact lc_add E hX hbl hN hn X hI hG hC ha hm hl hc hs kk
  by_cases h25 : z = 25
  · subst h25
    refine z_tabI E 1072 1105 dL_law_33 hz (by decide) (by decide) (by decide) (by decide) ?_
    exact lc_copy E hX hbl hN hn X hI hG hC ha hm hl hc hs kk
  by_cases h26 : z = 26
  · subst h26
    refine z_tabI E 1135 1168 dL_law_33 hz (by decide) (by decide) (by decide) (by decide) ?_
    exact lc_at E hX hbl hN hn X hI hG hC ha hm hl hc hs kk
  by_cases h27 : z = 27
  · subst h27
    refine z_tabI E 1168 1201 dL_law_33 hz (by decide) (by decide) (by decide) (by decide) ?_
    exact lc_peak E hX hbl hN hn X hI hG hC ha hm hl hc hs kk
  by_cases h28 : z = 28
  · subst h28
    refine z_tabI E 1191 1224 dL_law_33 hz (by decide) (by decide) (by decide) (by decide) ?_
    exact lc_total E hX hbl hN hn X hI hG hC ha hm hl hc hs kk
  refine z_tabO E 1247 dL_law_33 hz (by omega) (by decide) ?_
  refine W.widen (k := cells + 2) (n := slots + 1586) (by omega) (by omega) ?_
  exact kk a am G S U H locs ls X hI hG hC ha hm hl
set_option maxHeartbeats 4000000 in
set_option maxRecDepth 100000 in
theorem law_loop {p : Program} {l : Launch} {e : Env} {s : State} {m : MethodId} {below : List Frame} {meth : Method} {c : Code} {D : va_G} {cA : Nat → ClassId} {b N : Nat} {xs : Nat → Int32} (E : zE p s m #[Value.ref b] meth c cL_law RL meth.name wsL_law 4 ret D cA) (hX : va_X b N xs s s.heap) (hbl : b < s.heap.size) (hN : N ≤ 3072)  {q0 q1 : Nat} (hr : meth.sig.returnType = ret) : ∀ (F n : Nat) (a : Nat → Nat → Nat) (am : Nat → Nat) (G : zG) (S U : zS) (H : Heap) (locs : List Loc) (ls : Array Slot), 512 < n + F → 6 * n ≤ N → zX D s.heap.size (zj (layC cA a G S) (layM cA am S U)) s.heap H locs → SI S → CG S G → MC S U → a 0 0 = q0 → am 0 = q1 → lv_has ls 4 [(0, .ref b), (1, .ref q0), (2, .ref q1), (3, .int (i32 ((6 * n : Nat) : Int)))] → W p l e room_1 s m #[Value.ref b] below meth c H locs (30 + 2 * n) (44470 + 1586 * n) (lw_Z below #[Value.ref b] s) (F0 m 18 ls []) := by
  intro F
  induction F with
  | zero =>
    intro n a am G S U H locs ls h1 h2
    exact absurd h2 (by omega)
  | succ F ih =>
    intro n a am G S U H locs ls hF h6 X hI hG hC ha hm hl
    refine lv_iload_n E.1 E.2.1 dL_law_18 rfl (lv_at hl 3 rfl) ?_
    refine lv_aload_n E.1 E.2.1 dL_law_19 rfl (lv_at hl 0 rfl) ?_
    refine z_slen E X hX hbl dL_law_20 ?_
    refine z_bipush E dL_law_21 (by decide +kernel) ?_
    refine z_isub E dL_law_23 ?_
    refine z_cgt E 1253 ⟨by omega, by omega⟩ ⟨by omega, by omega⟩ dL_law_24 (by decide) (fun hgt => ?_) (fun hle => ?_)
    · refine lv_iconst (v := 1) E.1 E.2.1 dL_law_1253 (by decide) ?_
      refine va_forget (fun q hq => X.2.2.2 q hq) ?_
      refine W.widen (k := 600000) (n := 7302250) (by omega) (by omega) ?_
      exact lw_ret E.1 E.2.1 hr E.2.2.2.2.2.2.1 dL_law_1254
    · refine law_turn E hX hbl hN (n := n) (by omega) X hI hG hC ha hm hl (by show 30 + 2 * n + 2 ≤ 600000; omega) (by show 44470 + 1586 * n + 1586 ≤ 7302250; omega) (fun a am G S U H locs ls X hI hG hC ha hm hl => ?_)
      refine z_iinc (lv' := [(3, .int (i32 (((6 * n : Nat) : Int) + 6))), (0, .ref b), (1, .ref q0), (2, .ref q1)]) E dL_law_1247 hl (k := 3) rfl (by decide) rfl (fun ls hl => ?_)
      refine lv_goto (tgt := 18) E.1 E.2.1 dL_law_1250 (by decide) ?_
      refine W.widen (k := 30 + 2 * (n + 1)) (n := 44470 + 1586 * (n + 1)) (by omega) (by omega) ?_
      rw [show ((6 * n : Nat) : Int) + 6 = ((6 * (n + 1) : Nat) : Int) by omega] at hl
      exact ih (n + 1) a am G S U H locs ls (by omega) (by omega) X hI hG hC ha hm (lv_sub hl [1, 2, 3, 0] rfl)
set_option maxHeartbeats 4000000 in
set_option maxRecDepth 100000 in
theorem whole_start {p : Program} {e : Env} {s : State} {m : MethodId} {below : List Frame} {meth : Method} {c : Code} (l : Launch) {b L : Nat} {xs : Nat → Int32} (hL : L ≤ 3072) (C0 : lw_At p s m meth c b L xs) : W p l e room_1 s m #[Value.ref b] below meth c s.heap [] 0 0 (lw_Z below #[Value.ref b] s) (entryFrame m ([Value.ref b] : List Value).toArray 4) := by
  obtain ⟨D, cA, E⟩ := law_env C0
  obtain ⟨hx, hb, hr, hml, hown, hts, hX, hbl, hlocks, hgv⟩ := C0
  have X : zX D s.heap.size zL0 s.heap s.heap [] := zX_none (Nat.le_refl _) va_S.rf
  have hl := lv_entry ([.ref b]) (n := 4) (Nat.le_of_ble_eq_true rfl)
  rw [lg_entry_eq]
  generalize (lg_sl ([.ref b]) ++ List.replicate (4 - (lg_sl ([.ref b])).length) Slot.unset).toArray = ls at hl ⊢
  have hl : lv_has ls 4 [(0, .ref b)] := hl
  refine z_new (fs := [.null, .null, .null, .null, .null, .null, .int (i32 0), .int (i32 0), .int (i32 0), .int (i32 0), .int (i32 0)]) E X 0 0 5 rfl inlX5 tyX5 tyX5_ok (by decide +kernel) (by decide +kernel) (by decide +kernel) (fun j hj => by rcases (show j = 0 ∨ j = 1 ∨ j = 2 ∨ j = 3 ∨ j = 4 ∨ j = 5 ∨ j = 6 ∨ j = 7 ∨ j = 8 ∨ j = 9 ∨ j = 10 by omega) with rfl | rfl | rfl | rfl | rfl | rfl | rfl | rfl | rfl | rfl | rfl <;> first | rfl | exact congrArg Value.int i32_0) (by decide) (by decide) dL_law_0 (fun q H X => ?_)
  refine W.widen (k := 1) (n := 11) (by omega) (by omega) ?_
  refine lv_dup E.1 E.2.1 dL_law_3 rfl ?_
  refine z_callI (As := []) (rest := [.ref q]) (n := 0) E X (X_init l D cA s.heap.size zL0 q) gL_law_X5_init rfl (by decide +kernel) (by decide +kernel) (by decide +kernel) rfl (by decide +kernel) ⟨by decide, by decide⟩ rfl hl.1 rfl (Nat.le_of_ble_eq_true rfl) dL_law_4 ⟨by decide, by decide⟩ X.1 11 1876 ⟨rfl, rfl⟩ (fun v H locs hv hS1 => ?_)
  obtain ⟨rfl, a, G, ha, hG, hw⟩ := hv
  have X : zX D s.heap.size (zj (layC cA a G zS0) zL0) s.heap H locs := ⟨hw, hS1⟩
  refine lv_astore_n (lv' := [(1, .ref q), (0, .ref b)]) E.1 E.2.1 dL_law_7 rfl hl (by decide) rfl (fun ls hl => ?_)
  refine z_new (fs := [.int (i32 0), .int (i32 0), .int (i32 0), .int (i32 0), .int (i32 0), .int (i32 0), .null, .null, .int (i32 0), .null, .null, .null, .null, .null, .null, .null, .null, .int (i32 0), .null, .int (i32 0), .null, .null, .null, .null, .null, .null, .null, .int (i32 0)]) E X 32 0 6 rfl inlX6 tyX6 tyX6_ok (by decide +kernel) (by decide +kernel) (by decide +kernel) (fun j hj => by rcases (show j = 0 ∨ j = 1 ∨ j = 2 ∨ j = 3 ∨ j = 4 ∨ j = 5 ∨ j = 6 ∨ j = 7 ∨ j = 8 ∨ j = 9 ∨ j = 10 ∨ j = 11 ∨ j = 12 ∨ j = 13 ∨ j = 14 ∨ j = 15 ∨ j = 16 ∨ j = 17 ∨ j = 18 ∨ j = 19 ∨ j = 20 ∨ j = 21 ∨ j = 22 ∨ j = 23 ∨ j = 24 ∨ j = 25 ∨ j = 26 ∨ j = 27 by omega) with rfl | rfl | rfl | rfl | rfl | rfl | rfl | rfl | rfl | rfl | rfl | rfl | rfl | rfl | rfl | rfl | rfl | rfl | rfl | rfl | rfl | rfl | rfl | rfl | rfl | rfl | rfl | rfl <;> first | rfl | exact congrArg Value.int i32_0) (by decide) (by decide) dL_law_8 (fun q1 H X => ?_)
  refine W.widen (k := 12) (n := 1904) (by omega) (by omega) ?_
  refine lv_dup E.1 E.2.1 dL_law_11 rfl ?_
  refine z_callI (As := []) (rest := [.ref q1]) (n := 0) E X (M_init l D cA s.heap.size (zj (layC cA a G zS0) zL0) q1) gL_law_X6_init rfl (by decide +kernel) (by decide +kernel) (by decide +kernel) rfl (by decide +kernel) ⟨by decide, by decide⟩ rfl hl.1 rfl (Nat.le_of_ble_eq_true rfl) dL_law_12 ⟨by decide, by decide⟩ X.1 30 44470 ⟨rfl, rfl⟩ (fun v H locs hv hS2 => ?_)
  obtain ⟨rfl, am, U, hm, hC, hw⟩ := hv
  have X : zX D s.heap.size (zj (layC cA a G zS0) (layM cA am zS0 U)) s.heap H locs := zX.to ⟨hw, hS2⟩ (fun k i => by
    by_cases hk : k < 32
    · rw [zj_lo hk, zj_lo hk, zj_lo hk]
    · rw [zj_hi hk, zj_hi hk])
  refine lv_astore_n (lv' := [(2, .ref q1), (1, .ref q), (0, .ref b)]) E.1 E.2.1 dL_law_15 rfl hl (by decide) rfl (fun ls hl => ?_)
  refine z_iconst E dL_law_16 ?_
  refine lv_istore_n (lv' := [(3, .int (i32 0)), (2, .ref q1), (1, .ref q), (0, .ref b)]) E.1 E.2.1 dL_law_17 rfl hl (by decide) rfl (fun ls hl => ?_)
  exact law_loop E hX hbl hL hr 513 0 a am G zS0 U H locs ls (by omega) (by omega) X SI_0 hG hC ha hm (lv_sub hl [3, 2, 1, 0] rfl)
