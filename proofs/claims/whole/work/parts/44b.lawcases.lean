set_option maxHeartbeats 4000000 in
set_option maxRecDepth 100000 in
theorem lc_echo {p : Program} {l : Launch} {e : Env} {s : State} {m : MethodId} {below : List Frame} {meth : Method} {c : Code} {D : va_G} {cA : Nat → ClassId} {b N : Nat} {xs : Nat → Int32} (E : zE p s m #[Value.ref b] meth c cL_law RL meth.name wsL_law 4 ret D cA) (hX : va_X b N xs s s.heap) (hbl : b < s.heap.size) (hN : N ≤ 3072) {n : Nat} (hn : 6 * n + 6 ≤ N) {q0 q1 : Nat} {a : Nat → Nat → Nat} {am : Nat → Nat} {G : zG} {S U : zS} {H : Heap} {locs : List Loc} {ls : Array Slot} (X : zX D s.heap.size (zj (layC cA a G S) (layM cA am S U)) s.heap H locs) (hI : SI S) (hG : CG S G) (hC : MC S U) (ha : a 0 0 = q0) (hm : am 0 = q1) (hl : lv_has ls 4 [(0, .ref b), (1, .ref q0), (2, .ref q1), (3, .int (i32 ((6 * n : Nat) : Int)))]) {cells slots : Nat} (hc : cells + 2 ≤ room_1.cells) (hs : slots + 1586 ≤ room_1.slots) {Q : State → Prop} (kk : ∀ (a : Nat → Nat → Nat) (am : Nat → Nat) (G : zG) (S U : zS) (H : Heap) (locs : List Loc) (ls : Array Slot), zX D s.heap.size (zj (layC cA a G S) (layM cA am S U)) s.heap H locs → SI S → CG S G → MC S U → a 0 0 = q0 → am 0 = q1 → lv_has ls 4 [(0, .ref b), (1, .ref q0), (2, .ref q1), (3, .int (i32 ((6 * n : Nat) : Int)))] → W p l e room_1 s m #[Value.ref b] below meth c H locs (cells + 2) (slots + 1586) Q (F0 m 1247 ls [])) : W p l e room_1 s m #[Value.ref b] below meth c H locs cells slots Q (F0 m 580 ls []) := by
  subst ha
  subst hm
  obtain ⟨y1, hy1⟩ : ∃ y : Int, y = (xs (6 * n + 1)).toInt := ⟨_, rfl⟩
  have r1 : zr y1 := by rw [hy1]; exact i32_rng _
  obtain ⟨y2, hy2⟩ : ∃ y : Int, y = (xs (6 * n + 2)).toInt := ⟨_, rfl⟩
  have r2 : zr y2 := by rw [hy2]; exact i32_rng _
  obtain ⟨y3, hy3⟩ : ∃ y : Int, y = (xs (6 * n + 3)).toInt := ⟨_, rfl⟩
  have r3 : zr y3 := by rw [hy3]; exact i32_rng _
  refine lv_aload_n E.1 E.2.1 dL_law_580 rfl (lv_at hl 1 rfl) ?_
  refine lv_aload_n E.1 E.2.1 dL_law_581 rfl (lv_at hl 0 rfl) ?_
  refine lv_iload_n E.1 E.2.1 dL_law_582 rfl (lv_at hl 3 rfl) ?_
  refine z_iconst E dL_law_583 ?_
  refine z_iadd E dL_law_584 ?_
  refine z_sld E X hX hbl (6 * n + 1) (by omega) (by omega) hN hy1 dL_law_585 ?_
  refine lv_aload_n E.1 E.2.1 dL_law_586 rfl (lv_at hl 0 rfl) ?_
  refine lv_iload_n E.1 E.2.1 dL_law_587 rfl (lv_at hl 3 rfl) ?_
  refine z_iconst E dL_law_588 ?_
  refine z_iadd E dL_law_589 ?_
  refine z_sld E X hX hbl (6 * n + 2) (by omega) (by omega) hN hy2 dL_law_590 ?_
  refine lv_aload_n E.1 E.2.1 dL_law_591 rfl (lv_at hl 0 rfl) ?_
  refine lv_iload_n E.1 E.2.1 dL_law_592 rfl (lv_at hl 3 rfl) ?_
  refine z_iconst E dL_law_593 ?_
  refine z_iadd E dL_law_594 ?_
  refine z_sld E X hX hbl (6 * n + 3) (by omega) (by omega) hN hy3 dL_law_595 ?_
  refine z_callV (As := [.int (i32 y1), .int (i32 y2), .int (i32 y3)]) (rest := []) (n := 3) E X (lC_0 (layM cA am S U) cA a G S) rfl (X_echo l D cA s.heap.size (layM cA am S U) a G S hI hG y1 y2 y3 r1 r2 r3) gL_law_X5_echo rfl (by decide +kernel) ⟨by decide, by decide⟩ rfl hl.1 rfl (Nat.le_of_ble_eq_true rfl) dL_law_596 ⟨Nat.le_trans (Nat.add_le_add_left (by decide) _) hc, Nat.le_trans (Nat.add_le_add_left (by decide) _) hs⟩ X.1 cells slots ⟨rfl, rfl⟩ (fun v H locs hv hS1 => ?_)
  obtain ⟨rfl, a2, G2, ha2, hG2, hw⟩ := hv
  have X : zX D s.heap.size (zj (layC cA a2 G2 (fEcho S y1 y2 y3).2) (layM cA am S U)) s.heap H locs := ⟨hw, hS1⟩
  refine lv_aload_n E.1 E.2.1 dL_law_599 rfl (lv_at hl 2 rfl) ?_
  refine lv_aload_n E.1 E.2.1 dL_law_600 rfl (lv_at hl 0 rfl) ?_
  refine lv_iload_n E.1 E.2.1 dL_law_601 rfl (lv_at hl 3 rfl) ?_
  refine z_iconst E dL_law_602 ?_
  refine z_iadd E dL_law_603 ?_
  refine z_sld E X hX hbl (6 * n + 1) (by omega) (by omega) hN hy1 dL_law_604 ?_
  refine lv_aload_n E.1 E.2.1 dL_law_605 rfl (lv_at hl 0 rfl) ?_
  refine lv_iload_n E.1 E.2.1 dL_law_606 rfl (lv_at hl 3 rfl) ?_
  refine z_iconst E dL_law_607 ?_
  refine z_iadd E dL_law_608 ?_
  refine z_sld E X hX hbl (6 * n + 2) (by omega) (by omega) hN hy2 dL_law_609 ?_
  refine lv_aload_n E.1 E.2.1 dL_law_610 rfl (lv_at hl 0 rfl) ?_
  refine lv_iload_n E.1 E.2.1 dL_law_611 rfl (lv_at hl 3 rfl) ?_
  refine z_iconst E dL_law_612 ?_
  refine z_iadd E dL_law_613 ?_
  refine z_sld E X hX hbl (6 * n + 3) (by omega) (by omega) hN hy3 dL_law_614 ?_
  refine z_callV (As := [.int (i32 y1), .int (i32 y2), .int (i32 y3)]) (rest := [.int (i32 (fEcho S y1 y2 y3).1)]) (n := 3) E X (lM_0 (layC cA a2 G2 (fEcho S y1 y2 y3).2) cA am S U) rfl (M_echo l D cA s.heap.size (layC cA a2 G2 (fEcho S y1 y2 y3).2) am S U hI hC y1 y2 y3 r1 r2 r3) gL_law_X6_echo rfl (by decide +kernel) ⟨by decide, by decide⟩ rfl hl.1 rfl (Nat.le_of_ble_eq_true rfl) dL_law_615 ⟨Nat.le_trans (by show cells + 0 ≤ cells + 2; omega) hc, Nat.le_trans (by show slots + 0 ≤ slots + 1586; omega) hs⟩ X.1 cells slots ⟨rfl, rfl⟩ (fun v H locs hv hS2 => ?_)
  obtain ⟨rfl, U2, hC2, hw⟩ := hv
  refine lv_icmp_eq (tgt := 1247) E.1 E.2.1 dL_law_618 (by decide) (fun _ => ?_) (fun h => absurd rfl h)
  refine W.widen (k := cells + 2) (n := slots + 1586) (by omega) (by omega) ?_
  exact kk a2 am G2 (fEcho S y1 y2 y3).2 U2 H locs ls ⟨hw, hS2⟩ (SI_fEcho hI) hG2 hC2 ha2 rfl hl
set_option maxHeartbeats 4000000 in
set_option maxRecDepth 100000 in
theorem lc_gate {p : Program} {l : Launch} {e : Env} {s : State} {m : MethodId} {below : List Frame} {meth : Method} {c : Code} {D : va_G} {cA : Nat → ClassId} {b N : Nat} {xs : Nat → Int32} (E : zE p s m #[Value.ref b] meth c cL_law RL meth.name wsL_law 4 ret D cA) (hX : va_X b N xs s s.heap) (hbl : b < s.heap.size) (hN : N ≤ 3072) {n : Nat} (hn : 6 * n + 6 ≤ N) {q0 q1 : Nat} {a : Nat → Nat → Nat} {am : Nat → Nat} {G : zG} {S U : zS} {H : Heap} {locs : List Loc} {ls : Array Slot} (X : zX D s.heap.size (zj (layC cA a G S) (layM cA am S U)) s.heap H locs) (hI : SI S) (hG : CG S G) (hC : MC S U) (ha : a 0 0 = q0) (hm : am 0 = q1) (hl : lv_has ls 4 [(0, .ref b), (1, .ref q0), (2, .ref q1), (3, .int (i32 ((6 * n : Nat) : Int)))]) {cells slots : Nat} (hc : cells + 2 ≤ room_1.cells) (hs : slots + 1586 ≤ room_1.slots) {Q : State → Prop} (kk : ∀ (a : Nat → Nat → Nat) (am : Nat → Nat) (G : zG) (S U : zS) (H : Heap) (locs : List Loc) (ls : Array Slot), zX D s.heap.size (zj (layC cA a G S) (layM cA am S U)) s.heap H locs → SI S → CG S G → MC S U → a 0 0 = q0 → am 0 = q1 → lv_has ls 4 [(0, .ref b), (1, .ref q0), (2, .ref q1), (3, .int (i32 ((6 * n : Nat) : Int)))] → W p l e room_1 s m #[Value.ref b] below meth c H locs (cells + 2) (slots + 1586) Q (F0 m 1247 ls [])) : W p l e room_1 s m #[Value.ref b] below meth c H locs cells slots Q (F0 m 623 ls []) := by
  subst ha
  subst hm
  obtain ⟨y1, hy1⟩ : ∃ y : Int, y = (xs (6 * n + 1)).toInt := ⟨_, rfl⟩
  have r1 : zr y1 := by rw [hy1]; exact i32_rng _
  obtain ⟨y2, hy2⟩ : ∃ y : Int, y = (xs (6 * n + 2)).toInt := ⟨_, rfl⟩
  have r2 : zr y2 := by rw [hy2]; exact i32_rng _
  obtain ⟨y3, hy3⟩ : ∃ y : Int, y = (xs (6 * n + 3)).toInt := ⟨_, rfl⟩
  have r3 : zr y3 := by rw [hy3]; exact i32_rng _
  obtain ⟨y4, hy4⟩ : ∃ y : Int, y = (xs (6 * n + 4)).toInt := ⟨_, rfl⟩
  have r4 : zr y4 := by rw [hy4]; exact i32_rng _
  obtain ⟨y5, hy5⟩ : ∃ y : Int, y = (xs (6 * n + 5)).toInt := ⟨_, rfl⟩
  have r5 : zr y5 := by rw [hy5]; exact i32_rng _
  refine lv_aload_n E.1 E.2.1 dL_law_623 rfl (lv_at hl 1 rfl) ?_
  refine lv_aload_n E.1 E.2.1 dL_law_624 rfl (lv_at hl 0 rfl) ?_
  refine lv_iload_n E.1 E.2.1 dL_law_625 rfl (lv_at hl 3 rfl) ?_
  refine z_iconst E dL_law_626 ?_
  refine z_iadd E dL_law_627 ?_
  refine z_sld E X hX hbl (6 * n + 1) (by omega) (by omega) hN hy1 dL_law_628 ?_
  refine lv_aload_n E.1 E.2.1 dL_law_629 rfl (lv_at hl 0 rfl) ?_
  refine lv_iload_n E.1 E.2.1 dL_law_630 rfl (lv_at hl 3 rfl) ?_
  refine z_iconst E dL_law_631 ?_
  refine z_iadd E dL_law_632 ?_
  refine z_sld E X hX hbl (6 * n + 2) (by omega) (by omega) hN hy2 dL_law_633 ?_
  refine lv_aload_n E.1 E.2.1 dL_law_634 rfl (lv_at hl 0 rfl) ?_
  refine lv_iload_n E.1 E.2.1 dL_law_635 rfl (lv_at hl 3 rfl) ?_
  refine z_iconst E dL_law_636 ?_
  refine z_iadd E dL_law_637 ?_
  refine z_sld E X hX hbl (6 * n + 3) (by omega) (by omega) hN hy3 dL_law_638 ?_
  refine lv_aload_n E.1 E.2.1 dL_law_639 rfl (lv_at hl 0 rfl) ?_
  refine lv_iload_n E.1 E.2.1 dL_law_640 rfl (lv_at hl 3 rfl) ?_
  refine z_iconst E dL_law_641 ?_
  refine z_iadd E dL_law_642 ?_
  refine z_sld E X hX hbl (6 * n + 4) (by omega) (by omega) hN hy4 dL_law_643 ?_
  refine lv_aload_n E.1 E.2.1 dL_law_644 rfl (lv_at hl 0 rfl) ?_
  refine lv_iload_n E.1 E.2.1 dL_law_645 rfl (lv_at hl 3 rfl) ?_
  refine z_iconst E dL_law_646 ?_
  refine z_iadd E dL_law_647 ?_
  refine z_sld E X hX hbl (6 * n + 5) (by omega) (by omega) hN hy5 dL_law_648 ?_
  refine z_callV (As := [.int (i32 y1), .int (i32 y2), .int (i32 y3), .int (i32 y4), .int (i32 y5)]) (rest := []) (n := 5) E X (lC_0 (layM cA am S U) cA a G S) rfl (X_gate l D cA s.heap.size (layM cA am S U) a G S hI hG y1 y2 y3 y4 y5 r1 r2 r3 r4 r5) gL_law_X5_gate rfl (by decide +kernel) ⟨by decide, by decide⟩ rfl hl.1 rfl (Nat.le_of_ble_eq_true rfl) dL_law_649 ⟨Nat.le_trans (Nat.add_le_add_left (by decide) _) hc, Nat.le_trans (Nat.add_le_add_left (by decide) _) hs⟩ X.1 cells slots ⟨rfl, rfl⟩ (fun v H locs hv hS1 => ?_)
  obtain ⟨rfl, a2, G2, ha2, hG2, hw⟩ := hv
  have X : zX D s.heap.size (zj (layC cA a2 G2 (fGate S y1 y2 y3 y4 y5).2) (layM cA am S U)) s.heap H locs := ⟨hw, hS1⟩
  refine lv_aload_n E.1 E.2.1 dL_law_652 rfl (lv_at hl 2 rfl) ?_
  refine lv_aload_n E.1 E.2.1 dL_law_653 rfl (lv_at hl 0 rfl) ?_
  refine lv_iload_n E.1 E.2.1 dL_law_654 rfl (lv_at hl 3 rfl) ?_
  refine z_iconst E dL_law_655 ?_
  refine z_iadd E dL_law_656 ?_
  refine z_sld E X hX hbl (6 * n + 1) (by omega) (by omega) hN hy1 dL_law_657 ?_
  refine lv_aload_n E.1 E.2.1 dL_law_658 rfl (lv_at hl 0 rfl) ?_
  refine lv_iload_n E.1 E.2.1 dL_law_659 rfl (lv_at hl 3 rfl) ?_
  refine z_iconst E dL_law_660 ?_
  refine z_iadd E dL_law_661 ?_
  refine z_sld E X hX hbl (6 * n + 2) (by omega) (by omega) hN hy2 dL_law_662 ?_
  refine lv_aload_n E.1 E.2.1 dL_law_663 rfl (lv_at hl 0 rfl) ?_
  refine lv_iload_n E.1 E.2.1 dL_law_664 rfl (lv_at hl 3 rfl) ?_
  refine z_iconst E dL_law_665 ?_
  refine z_iadd E dL_law_666 ?_
  refine z_sld E X hX hbl (6 * n + 3) (by omega) (by omega) hN hy3 dL_law_667 ?_
  refine lv_aload_n E.1 E.2.1 dL_law_668 rfl (lv_at hl 0 rfl) ?_
  refine lv_iload_n E.1 E.2.1 dL_law_669 rfl (lv_at hl 3 rfl) ?_
  refine z_iconst E dL_law_670 ?_
  refine z_iadd E dL_law_671 ?_
  refine z_sld E X hX hbl (6 * n + 4) (by omega) (by omega) hN hy4 dL_law_672 ?_
  refine lv_aload_n E.1 E.2.1 dL_law_673 rfl (lv_at hl 0 rfl) ?_
  refine lv_iload_n E.1 E.2.1 dL_law_674 rfl (lv_at hl 3 rfl) ?_
  refine z_iconst E dL_law_675 ?_
  refine z_iadd E dL_law_676 ?_
  refine z_sld E X hX hbl (6 * n + 5) (by omega) (by omega) hN hy5 dL_law_677 ?_
  refine z_callV (As := [.int (i32 y1), .int (i32 y2), .int (i32 y3), .int (i32 y4), .int (i32 y5)]) (rest := [.int (i32 (fGate S y1 y2 y3 y4 y5).1)]) (n := 5) E X (lM_0 (layC cA a2 G2 (fGate S y1 y2 y3 y4 y5).2) cA am S U) rfl (M_gate l D cA s.heap.size (layC cA a2 G2 (fGate S y1 y2 y3 y4 y5).2) am S U hI hC y1 y2 y3 y4 y5 r1 r2 r3 r4 r5) gL_law_X6_gate rfl (by decide +kernel) ⟨by decide, by decide⟩ rfl hl.1 rfl (Nat.le_of_ble_eq_true rfl) dL_law_678 ⟨Nat.le_trans (by show cells + 0 ≤ cells + 2; omega) hc, Nat.le_trans (by show slots + 0 ≤ slots + 1586; omega) hs⟩ X.1 cells slots ⟨rfl, rfl⟩ (fun v H locs hv hS2 => ?_)
  obtain ⟨rfl, U2, hC2, hw⟩ := hv
  refine lv_icmp_eq (tgt := 1247) E.1 E.2.1 dL_law_681 (by decide) (fun _ => ?_) (fun h => absurd rfl h)
  refine W.widen (k := cells + 2) (n := slots + 1586) (by omega) (by omega) ?_
  exact kk a2 am G2 (fGate S y1 y2 y3 y4 y5).2 U2 H locs ls ⟨hw, hS2⟩ (SI_fGate hI) hG2 hC2 ha2 rfl hl
set_option maxHeartbeats 4000000 in
set_option maxRecDepth 100000 in
theorem lc_focus {p : Program} {l : Launch} {e : Env} {s : State} {m : MethodId} {below : List Frame} {meth : Method} {c : Code} {D : va_G} {cA : Nat → ClassId} {b N : Nat} {xs : Nat → Int32} (E : zE p s m #[Value.ref b] meth c cL_law RL meth.name wsL_law 4 ret D cA) (hX : va_X b N xs s s.heap) (hbl : b < s.heap.size) (hN : N ≤ 3072) {n : Nat} (hn : 6 * n + 6 ≤ N) {q0 q1 : Nat} {a : Nat → Nat → Nat} {am : Nat → Nat} {G : zG} {S U : zS} {H : Heap} {locs : List Loc} {ls : Array Slot} (X : zX D s.heap.size (zj (layC cA a G S) (layM cA am S U)) s.heap H locs) (hI : SI S) (hG : CG S G) (hC : MC S U) (ha : a 0 0 = q0) (hm : am 0 = q1) (hl : lv_has ls 4 [(0, .ref b), (1, .ref q0), (2, .ref q1), (3, .int (i32 ((6 * n : Nat) : Int)))]) {cells slots : Nat} (hc : cells + 2 ≤ room_1.cells) (hs : slots + 1586 ≤ room_1.slots) {Q : State → Prop} (kk : ∀ (a : Nat → Nat → Nat) (am : Nat → Nat) (G : zG) (S U : zS) (H : Heap) (locs : List Loc) (ls : Array Slot), zX D s.heap.size (zj (layC cA a G S) (layM cA am S U)) s.heap H locs → SI S → CG S G → MC S U → a 0 0 = q0 → am 0 = q1 → lv_has ls 4 [(0, .ref b), (1, .ref q0), (2, .ref q1), (3, .int (i32 ((6 * n : Nat) : Int)))] → W p l e room_1 s m #[Value.ref b] below meth c H locs (cells + 2) (slots + 1586) Q (F0 m 1247 ls [])) : W p l e room_1 s m #[Value.ref b] below meth c H locs cells slots Q (F0 m 686 ls []) := by
  subst ha
  subst hm
  obtain ⟨y1, hy1⟩ : ∃ y : Int, y = (xs (6 * n + 1)).toInt := ⟨_, rfl⟩
  have r1 : zr y1 := by rw [hy1]; exact i32_rng _
  obtain ⟨y2, hy2⟩ : ∃ y : Int, y = (xs (6 * n + 2)).toInt := ⟨_, rfl⟩
  have r2 : zr y2 := by rw [hy2]; exact i32_rng _
  refine lv_aload_n E.1 E.2.1 dL_law_686 rfl (lv_at hl 1 rfl) ?_
  refine lv_aload_n E.1 E.2.1 dL_law_687 rfl (lv_at hl 0 rfl) ?_
  refine lv_iload_n E.1 E.2.1 dL_law_688 rfl (lv_at hl 3 rfl) ?_
  refine z_iconst E dL_law_689 ?_
  refine z_iadd E dL_law_690 ?_
  refine z_sld E X hX hbl (6 * n + 1) (by omega) (by omega) hN hy1 dL_law_691 ?_
  refine lv_aload_n E.1 E.2.1 dL_law_692 rfl (lv_at hl 0 rfl) ?_
  refine lv_iload_n E.1 E.2.1 dL_law_693 rfl (lv_at hl 3 rfl) ?_
  refine z_iconst E dL_law_694 ?_
  refine z_iadd E dL_law_695 ?_
  refine z_sld E X hX hbl (6 * n + 2) (by omega) (by omega) hN hy2 dL_law_696 ?_
  refine z_callV (As := [.int (i32 y1), .int (i32 y2)]) (rest := []) (n := 2) E X (lC_0 (layM cA am S U) cA a G S) rfl (X_focus l D cA s.heap.size (layM cA am S U) a G S hI hG y1 y2 r1 r2) gL_law_X5_focus rfl (by decide +kernel) ⟨by decide, by decide⟩ rfl hl.1 rfl (Nat.le_of_ble_eq_true rfl) dL_law_697 ⟨Nat.le_trans (Nat.add_le_add_left (by decide) _) hc, Nat.le_trans (Nat.add_le_add_left (by decide) _) hs⟩ X.1 cells slots ⟨rfl, rfl⟩ (fun v H locs hv hS1 => ?_)
  obtain ⟨rfl, a2, G2, ha2, hG2, hw⟩ := hv
  have X : zX D s.heap.size (zj (layC cA a2 G2 (fFocus S y1 y2).2) (layM cA am S U)) s.heap H locs := ⟨hw, hS1⟩
  refine lv_aload_n E.1 E.2.1 dL_law_700 rfl (lv_at hl 2 rfl) ?_
  refine lv_aload_n E.1 E.2.1 dL_law_701 rfl (lv_at hl 0 rfl) ?_
  refine lv_iload_n E.1 E.2.1 dL_law_702 rfl (lv_at hl 3 rfl) ?_
  refine z_iconst E dL_law_703 ?_
  refine z_iadd E dL_law_704 ?_
  refine z_sld E X hX hbl (6 * n + 1) (by omega) (by omega) hN hy1 dL_law_705 ?_
  refine lv_aload_n E.1 E.2.1 dL_law_706 rfl (lv_at hl 0 rfl) ?_
  refine lv_iload_n E.1 E.2.1 dL_law_707 rfl (lv_at hl 3 rfl) ?_
  refine z_iconst E dL_law_708 ?_
  refine z_iadd E dL_law_709 ?_
  refine z_sld E X hX hbl (6 * n + 2) (by omega) (by omega) hN hy2 dL_law_710 ?_
  refine z_callV (As := [.int (i32 y1), .int (i32 y2)]) (rest := [.int (i32 (fFocus S y1 y2).1)]) (n := 2) E X (lM_0 (layC cA a2 G2 (fFocus S y1 y2).2) cA am S U) rfl (M_focus l D cA s.heap.size (layC cA a2 G2 (fFocus S y1 y2).2) am S U hI hC y1 y2 r1 r2) gL_law_X6_focus rfl (by decide +kernel) ⟨by decide, by decide⟩ rfl hl.1 rfl (Nat.le_of_ble_eq_true rfl) dL_law_711 ⟨Nat.le_trans (by show cells + 0 ≤ cells + 2; omega) hc, Nat.le_trans (by show slots + 0 ≤ slots + 1586; omega) hs⟩ X.1 cells slots ⟨rfl, rfl⟩ (fun v H locs hv hS2 => ?_)
  obtain ⟨rfl, U2, hC2, hw⟩ := hv
  refine lv_icmp_eq (tgt := 1247) E.1 E.2.1 dL_law_714 (by decide) (fun _ => ?_) (fun h => absurd rfl h)
  refine W.widen (k := cells + 2) (n := slots + 1586) (by omega) (by omega) ?_
  exact kk a2 am G2 (fFocus S y1 y2).2 U2 H locs ls ⟨hw, hS2⟩ (SI_fFocus hI) hG2 hC2 ha2 rfl hl
set_option maxHeartbeats 4000000 in
set_option maxRecDepth 100000 in
theorem lc_delay {p : Program} {l : Launch} {e : Env} {s : State} {m : MethodId} {below : List Frame} {meth : Method} {c : Code} {D : va_G} {cA : Nat → ClassId} {b N : Nat} {xs : Nat → Int32} (E : zE p s m #[Value.ref b] meth c cL_law RL meth.name wsL_law 4 ret D cA) (hX : va_X b N xs s s.heap) (hbl : b < s.heap.size) (hN : N ≤ 3072) {n : Nat} (hn : 6 * n + 6 ≤ N) {q0 q1 : Nat} {a : Nat → Nat → Nat} {am : Nat → Nat} {G : zG} {S U : zS} {H : Heap} {locs : List Loc} {ls : Array Slot} (X : zX D s.heap.size (zj (layC cA a G S) (layM cA am S U)) s.heap H locs) (hI : SI S) (hG : CG S G) (hC : MC S U) (ha : a 0 0 = q0) (hm : am 0 = q1) (hl : lv_has ls 4 [(0, .ref b), (1, .ref q0), (2, .ref q1), (3, .int (i32 ((6 * n : Nat) : Int)))]) {cells slots : Nat} (hc : cells + 2 ≤ room_1.cells) (hs : slots + 1586 ≤ room_1.slots) {Q : State → Prop} (kk : ∀ (a : Nat → Nat → Nat) (am : Nat → Nat) (G : zG) (S U : zS) (H : Heap) (locs : List Loc) (ls : Array Slot), zX D s.heap.size (zj (layC cA a G S) (layM cA am S U)) s.heap H locs → SI S → CG S G → MC S U → a 0 0 = q0 → am 0 = q1 → lv_has ls 4 [(0, .ref b), (1, .ref q0), (2, .ref q1), (3, .int (i32 ((6 * n : Nat) : Int)))] → W p l e room_1 s m #[Value.ref b] below meth c H locs (cells + 2) (slots + 1586) Q (F0 m 1247 ls [])) : W p l e room_1 s m #[Value.ref b] below meth c H locs cells slots Q (F0 m 719 ls []) := by
  subst ha
  subst hm
  obtain ⟨y1, hy1⟩ : ∃ y : Int, y = (xs (6 * n + 1)).toInt := ⟨_, rfl⟩
  have r1 : zr y1 := by rw [hy1]; exact i32_rng _
  refine lv_aload_n E.1 E.2.1 dL_law_719 rfl (lv_at hl 1 rfl) ?_
  refine lv_aload_n E.1 E.2.1 dL_law_720 rfl (lv_at hl 0 rfl) ?_
  refine lv_iload_n E.1 E.2.1 dL_law_721 rfl (lv_at hl 3 rfl) ?_
  refine z_iconst E dL_law_722 ?_
  refine z_iadd E dL_law_723 ?_
  refine z_sld E X hX hbl (6 * n + 1) (by omega) (by omega) hN hy1 dL_law_724 ?_
  refine z_callV (As := [.int (i32 y1)]) (rest := []) (n := 1) E X (lC_0 (layM cA am S U) cA a G S) rfl (X_delay l D cA s.heap.size (layM cA am S U) a G S hI hG y1 r1) gL_law_X5_delay rfl (by decide +kernel) ⟨by decide, by decide⟩ rfl hl.1 rfl (Nat.le_of_ble_eq_true rfl) dL_law_725 ⟨Nat.le_trans (Nat.add_le_add_left (by decide) _) hc, Nat.le_trans (Nat.add_le_add_left (by decide) _) hs⟩ X.1 cells slots ⟨rfl, rfl⟩ (fun v H locs hv hS1 => ?_)
  obtain ⟨rfl, a2, G2, ha2, hG2, hw⟩ := hv
  have X : zX D s.heap.size (zj (layC cA a2 G2 (fDelay S y1).2) (layM cA am S U)) s.heap H locs := ⟨hw, hS1⟩
  refine lv_aload_n E.1 E.2.1 dL_law_728 rfl (lv_at hl 2 rfl) ?_
  refine lv_aload_n E.1 E.2.1 dL_law_729 rfl (lv_at hl 0 rfl) ?_
  refine lv_iload_n E.1 E.2.1 dL_law_730 rfl (lv_at hl 3 rfl) ?_
  refine z_iconst E dL_law_731 ?_
  refine z_iadd E dL_law_732 ?_
  refine z_sld E X hX hbl (6 * n + 1) (by omega) (by omega) hN hy1 dL_law_733 ?_
  refine z_callV (As := [.int (i32 y1)]) (rest := [.int (i32 (fDelay S y1).1)]) (n := 1) E X (lM_0 (layC cA a2 G2 (fDelay S y1).2) cA am S U) rfl (M_delay l D cA s.heap.size (layC cA a2 G2 (fDelay S y1).2) am S U hI hC y1 r1) gL_law_X6_delay rfl (by decide +kernel) ⟨by decide, by decide⟩ rfl hl.1 rfl (Nat.le_of_ble_eq_true rfl) dL_law_734 ⟨Nat.le_trans (by show cells + 0 ≤ cells + 2; omega) hc, Nat.le_trans (by show slots + 0 ≤ slots + 1586; omega) hs⟩ X.1 cells slots ⟨rfl, rfl⟩ (fun v H locs hv hS2 => ?_)
  obtain ⟨rfl, U2, hC2, hw⟩ := hv
  refine lv_icmp_eq (tgt := 1247) E.1 E.2.1 dL_law_737 (by decide) (fun _ => ?_) (fun h => absurd rfl h)
  refine W.widen (k := cells + 2) (n := slots + 1586) (by omega) (by omega) ?_
  exact kk a2 am G2 (fDelay S y1).2 U2 H locs ls ⟨hw, hS2⟩ (SI_fDelay hI) hG2 hC2 ha2 rfl hl
set_option maxHeartbeats 4000000 in
set_option maxRecDepth 100000 in
theorem lc_heard {p : Program} {l : Launch} {e : Env} {s : State} {m : MethodId} {below : List Frame} {meth : Method} {c : Code} {D : va_G} {cA : Nat → ClassId} {b N : Nat} {xs : Nat → Int32} (E : zE p s m #[Value.ref b] meth c cL_law RL meth.name wsL_law 4 ret D cA) (hX : va_X b N xs s s.heap) (hbl : b < s.heap.size) (hN : N ≤ 3072) {n : Nat} (hn : 6 * n + 6 ≤ N) {q0 q1 : Nat} {a : Nat → Nat → Nat} {am : Nat → Nat} {G : zG} {S U : zS} {H : Heap} {locs : List Loc} {ls : Array Slot} (X : zX D s.heap.size (zj (layC cA a G S) (layM cA am S U)) s.heap H locs) (hI : SI S) (hG : CG S G) (hC : MC S U) (ha : a 0 0 = q0) (hm : am 0 = q1) (hl : lv_has ls 4 [(0, .ref b), (1, .ref q0), (2, .ref q1), (3, .int (i32 ((6 * n : Nat) : Int)))]) {cells slots : Nat} (hc : cells + 2 ≤ room_1.cells) (hs : slots + 1586 ≤ room_1.slots) {Q : State → Prop} (kk : ∀ (a : Nat → Nat → Nat) (am : Nat → Nat) (G : zG) (S U : zS) (H : Heap) (locs : List Loc) (ls : Array Slot), zX D s.heap.size (zj (layC cA a G S) (layM cA am S U)) s.heap H locs → SI S → CG S G → MC S U → a 0 0 = q0 → am 0 = q1 → lv_has ls 4 [(0, .ref b), (1, .ref q0), (2, .ref q1), (3, .int (i32 ((6 * n : Nat) : Int)))] → W p l e room_1 s m #[Value.ref b] below meth c H locs (cells + 2) (slots + 1586) Q (F0 m 1247 ls [])) : W p l e room_1 s m #[Value.ref b] below meth c H locs cells slots Q (F0 m 742 ls []) := by
  subst ha
  subst hm
  obtain ⟨y1, hy1⟩ : ∃ y : Int, y = (xs (6 * n + 1)).toInt := ⟨_, rfl⟩
  have r1 : zr y1 := by rw [hy1]; exact i32_rng _
  obtain ⟨y2, hy2⟩ : ∃ y : Int, y = (xs (6 * n + 2)).toInt := ⟨_, rfl⟩
  have r2 : zr y2 := by rw [hy2]; exact i32_rng _
  refine lv_aload_n E.1 E.2.1 dL_law_742 rfl (lv_at hl 1 rfl) ?_
  refine lv_aload_n E.1 E.2.1 dL_law_743 rfl (lv_at hl 0 rfl) ?_
  refine lv_iload_n E.1 E.2.1 dL_law_744 rfl (lv_at hl 3 rfl) ?_
  refine z_iconst E dL_law_745 ?_
  refine z_iadd E dL_law_746 ?_
  refine z_sld E X hX hbl (6 * n + 1) (by omega) (by omega) hN hy1 dL_law_747 ?_
  refine lv_aload_n E.1 E.2.1 dL_law_748 rfl (lv_at hl 0 rfl) ?_
  refine lv_iload_n E.1 E.2.1 dL_law_749 rfl (lv_at hl 3 rfl) ?_
  refine z_iconst E dL_law_750 ?_
  refine z_iadd E dL_law_751 ?_
  refine z_sld E X hX hbl (6 * n + 2) (by omega) (by omega) hN hy2 dL_law_752 ?_
  refine z_callV (As := [.int (i32 y1), .int (i32 y2)]) (rest := []) (n := 2) E X (lC_0 (layM cA am S U) cA a G S) rfl (X_heard l D cA s.heap.size (layM cA am S U) a G S hI hG y1 y2 r1 r2) gL_law_X5_heard rfl (by decide +kernel) ⟨by decide, by decide⟩ rfl hl.1 rfl (Nat.le_of_ble_eq_true rfl) dL_law_753 ⟨Nat.le_trans (Nat.add_le_add_left (by decide) _) hc, Nat.le_trans (Nat.add_le_add_left (by decide) _) hs⟩ X.1 cells slots ⟨rfl, rfl⟩ (fun v H locs hv hS1 => ?_)
  obtain ⟨rfl, a2, G2, ha2, hG2, hw⟩ := hv
  have X : zX D s.heap.size (zj (layC cA a2 G2 (fHeard S y1 y2).2) (layM cA am S U)) s.heap H locs := ⟨hw, hS1⟩
  refine lv_aload_n E.1 E.2.1 dL_law_756 rfl (lv_at hl 2 rfl) ?_
  refine lv_aload_n E.1 E.2.1 dL_law_757 rfl (lv_at hl 0 rfl) ?_
  refine lv_iload_n E.1 E.2.1 dL_law_758 rfl (lv_at hl 3 rfl) ?_
  refine z_iconst E dL_law_759 ?_
  refine z_iadd E dL_law_760 ?_
  refine z_sld E X hX hbl (6 * n + 1) (by omega) (by omega) hN hy1 dL_law_761 ?_
  refine lv_aload_n E.1 E.2.1 dL_law_762 rfl (lv_at hl 0 rfl) ?_
  refine lv_iload_n E.1 E.2.1 dL_law_763 rfl (lv_at hl 3 rfl) ?_
  refine z_iconst E dL_law_764 ?_
  refine z_iadd E dL_law_765 ?_
  refine z_sld E X hX hbl (6 * n + 2) (by omega) (by omega) hN hy2 dL_law_766 ?_
  refine z_callV (As := [.int (i32 y1), .int (i32 y2)]) (rest := [.int (i32 (fHeard S y1 y2).1)]) (n := 2) E X (lM_0 (layC cA a2 G2 (fHeard S y1 y2).2) cA am S U) rfl (M_heard l D cA s.heap.size (layC cA a2 G2 (fHeard S y1 y2).2) am S U hI hC y1 y2 r1 r2) gL_law_X6_heard rfl (by decide +kernel) ⟨by decide, by decide⟩ rfl hl.1 rfl (Nat.le_of_ble_eq_true rfl) dL_law_767 ⟨Nat.le_trans (by show cells + 0 ≤ cells + 2; omega) hc, Nat.le_trans (by show slots + 0 ≤ slots + 1586; omega) hs⟩ X.1 cells slots ⟨rfl, rfl⟩ (fun v H locs hv hS2 => ?_)
  obtain ⟨rfl, U2, hC2, hw⟩ := hv
  refine lv_icmp_eq (tgt := 1247) E.1 E.2.1 dL_law_770 (by decide) (fun _ => ?_) (fun h => absurd rfl h)
  refine W.widen (k := cells + 2) (n := slots + 1586) (by omega) (by omega) ?_
  exact kk a2 am G2 (fHeard S y1 y2).2 U2 H locs ls ⟨hw, hS2⟩ (SI_fHeard hI) hG2 hC2 ha2 rfl hl
set_option maxHeartbeats 4000000 in
set_option maxRecDepth 100000 in
theorem lc_sum {p : Program} {l : Launch} {e : Env} {s : State} {m : MethodId} {below : List Frame} {meth : Method} {c : Code} {D : va_G} {cA : Nat → ClassId} {b N : Nat} {xs : Nat → Int32} (E : zE p s m #[Value.ref b] meth c cL_law RL meth.name wsL_law 4 ret D cA) (hX : va_X b N xs s s.heap) (hbl : b < s.heap.size) (hN : N ≤ 3072) {n : Nat} (hn : 6 * n + 6 ≤ N) {q0 q1 : Nat} {a : Nat → Nat → Nat} {am : Nat → Nat} {G : zG} {S U : zS} {H : Heap} {locs : List Loc} {ls : Array Slot} (X : zX D s.heap.size (zj (layC cA a G S) (layM cA am S U)) s.heap H locs) (hI : SI S) (hG : CG S G) (hC : MC S U) (ha : a 0 0 = q0) (hm : am 0 = q1) (hl : lv_has ls 4 [(0, .ref b), (1, .ref q0), (2, .ref q1), (3, .int (i32 ((6 * n : Nat) : Int)))]) {cells slots : Nat} (hc : cells + 2 ≤ room_1.cells) (hs : slots + 1586 ≤ room_1.slots) {Q : State → Prop} (kk : ∀ (a : Nat → Nat → Nat) (am : Nat → Nat) (G : zG) (S U : zS) (H : Heap) (locs : List Loc) (ls : Array Slot), zX D s.heap.size (zj (layC cA a G S) (layM cA am S U)) s.heap H locs → SI S → CG S G → MC S U → a 0 0 = q0 → am 0 = q1 → lv_has ls 4 [(0, .ref b), (1, .ref q0), (2, .ref q1), (3, .int (i32 ((6 * n : Nat) : Int)))] → W p l e room_1 s m #[Value.ref b] below meth c H locs (cells + 2) (slots + 1586) Q (F0 m 1247 ls [])) : W p l e room_1 s m #[Value.ref b] below meth c H locs cells slots Q (F0 m 775 ls []) := by
  subst ha
  subst hm
  obtain ⟨y1, hy1⟩ : ∃ y : Int, y = (xs (6 * n + 1)).toInt := ⟨_, rfl⟩
  have r1 : zr y1 := by rw [hy1]; exact i32_rng _
  refine lv_aload_n E.1 E.2.1 dL_law_775 rfl (lv_at hl 1 rfl) ?_
  refine lv_aload_n E.1 E.2.1 dL_law_776 rfl (lv_at hl 0 rfl) ?_
  refine lv_iload_n E.1 E.2.1 dL_law_777 rfl (lv_at hl 3 rfl) ?_
  refine z_iconst E dL_law_778 ?_
  refine z_iadd E dL_law_779 ?_
  refine z_sld E X hX hbl (6 * n + 1) (by omega) (by omega) hN hy1 dL_law_780 ?_
  refine z_callV (As := [.int (i32 y1)]) (rest := []) (n := 1) E X (lC_0 (layM cA am S U) cA a G S) rfl (X_sum l D cA s.heap.size (layM cA am S U) a G S hI hG y1 r1) gL_law_X5_sum rfl (by decide +kernel) ⟨by decide, by decide⟩ rfl hl.1 rfl (Nat.le_of_ble_eq_true rfl) dL_law_781 ⟨Nat.le_trans (Nat.add_le_add_left (by decide) _) hc, Nat.le_trans (Nat.add_le_add_left (by decide) _) hs⟩ X.1 cells slots ⟨rfl, rfl⟩ (fun v H locs hv hS1 => ?_)
  obtain ⟨rfl, a2, G2, ha2, hG2, hw⟩ := hv
  have X : zX D s.heap.size (zj (layC cA a2 G2 (fSum S y1).2) (layM cA am S U)) s.heap H locs := ⟨hw, hS1⟩
  refine lv_aload_n E.1 E.2.1 dL_law_784 rfl (lv_at hl 2 rfl) ?_
  refine lv_aload_n E.1 E.2.1 dL_law_785 rfl (lv_at hl 0 rfl) ?_
  refine lv_iload_n E.1 E.2.1 dL_law_786 rfl (lv_at hl 3 rfl) ?_
  refine z_iconst E dL_law_787 ?_
  refine z_iadd E dL_law_788 ?_
  refine z_sld E X hX hbl (6 * n + 1) (by omega) (by omega) hN hy1 dL_law_789 ?_
  refine z_callV (As := [.int (i32 y1)]) (rest := [.int (i32 (fSum S y1).1)]) (n := 1) E X (lM_0 (layC cA a2 G2 (fSum S y1).2) cA am S U) rfl (M_sum l D cA s.heap.size (layC cA a2 G2 (fSum S y1).2) am S U hI hC y1 r1) gL_law_X6_sum rfl (by decide +kernel) ⟨by decide, by decide⟩ rfl hl.1 rfl (Nat.le_of_ble_eq_true rfl) dL_law_790 ⟨Nat.le_trans (by show cells + 0 ≤ cells + 2; omega) hc, Nat.le_trans (by show slots + 0 ≤ slots + 1586; omega) hs⟩ X.1 cells slots ⟨rfl, rfl⟩ (fun v H locs hv hS2 => ?_)
  obtain ⟨rfl, U2, hC2, hw⟩ := hv
  refine lv_icmp_eq (tgt := 1247) E.1 E.2.1 dL_law_793 (by decide) (fun _ => ?_) (fun h => absurd rfl h)
  refine W.widen (k := cells + 2) (n := slots + 1586) (by omega) (by omega) ?_
  exact kk a2 am G2 (fSum S y1).2 U2 H locs ls ⟨hw, hS2⟩ (SI_fSum hI) hG2 hC2 ha2 rfl hl
set_option maxHeartbeats 4000000 in
set_option maxRecDepth 100000 in
theorem lc_board {p : Program} {l : Launch} {e : Env} {s : State} {m : MethodId} {below : List Frame} {meth : Method} {c : Code} {D : va_G} {cA : Nat → ClassId} {b N : Nat} {xs : Nat → Int32} (E : zE p s m #[Value.ref b] meth c cL_law RL meth.name wsL_law 4 ret D cA) (hX : va_X b N xs s s.heap) (hbl : b < s.heap.size) (hN : N ≤ 3072) {n : Nat} (hn : 6 * n + 6 ≤ N) {q0 q1 : Nat} {a : Nat → Nat → Nat} {am : Nat → Nat} {G : zG} {S U : zS} {H : Heap} {locs : List Loc} {ls : Array Slot} (X : zX D s.heap.size (zj (layC cA a G S) (layM cA am S U)) s.heap H locs) (hI : SI S) (hG : CG S G) (hC : MC S U) (ha : a 0 0 = q0) (hm : am 0 = q1) (hl : lv_has ls 4 [(0, .ref b), (1, .ref q0), (2, .ref q1), (3, .int (i32 ((6 * n : Nat) : Int)))]) {cells slots : Nat} (hc : cells + 2 ≤ room_1.cells) (hs : slots + 1586 ≤ room_1.slots) {Q : State → Prop} (kk : ∀ (a : Nat → Nat → Nat) (am : Nat → Nat) (G : zG) (S U : zS) (H : Heap) (locs : List Loc) (ls : Array Slot), zX D s.heap.size (zj (layC cA a G S) (layM cA am S U)) s.heap H locs → SI S → CG S G → MC S U → a 0 0 = q0 → am 0 = q1 → lv_has ls 4 [(0, .ref b), (1, .ref q0), (2, .ref q1), (3, .int (i32 ((6 * n : Nat) : Int)))] → W p l e room_1 s m #[Value.ref b] below meth c H locs (cells + 2) (slots + 1586) Q (F0 m 1247 ls [])) : W p l e room_1 s m #[Value.ref b] below meth c H locs cells slots Q (F0 m 798 ls []) := by
  subst ha
  subst hm
  obtain ⟨y1, hy1⟩ : ∃ y : Int, y = (xs (6 * n + 1)).toInt := ⟨_, rfl⟩
  have r1 : zr y1 := by rw [hy1]; exact i32_rng _
  obtain ⟨y2, hy2⟩ : ∃ y : Int, y = (xs (6 * n + 2)).toInt := ⟨_, rfl⟩
  have r2 : zr y2 := by rw [hy2]; exact i32_rng _
  refine lv_aload_n E.1 E.2.1 dL_law_798 rfl (lv_at hl 1 rfl) ?_
  refine lv_aload_n E.1 E.2.1 dL_law_799 rfl (lv_at hl 0 rfl) ?_
  refine lv_iload_n E.1 E.2.1 dL_law_800 rfl (lv_at hl 3 rfl) ?_
  refine z_iconst E dL_law_801 ?_
  refine z_iadd E dL_law_802 ?_
  refine z_sld E X hX hbl (6 * n + 1) (by omega) (by omega) hN hy1 dL_law_803 ?_
  refine lv_aload_n E.1 E.2.1 dL_law_804 rfl (lv_at hl 0 rfl) ?_
  refine lv_iload_n E.1 E.2.1 dL_law_805 rfl (lv_at hl 3 rfl) ?_
  refine z_iconst E dL_law_806 ?_
  refine z_iadd E dL_law_807 ?_
  refine z_sld E X hX hbl (6 * n + 2) (by omega) (by omega) hN hy2 dL_law_808 ?_
  refine z_callV (As := [.int (i32 y1), .int (i32 y2)]) (rest := []) (n := 2) E X (lC_0 (layM cA am S U) cA a G S) rfl (X_board l D cA s.heap.size (layM cA am S U) a G S hI hG y1 y2 r1 r2) gL_law_X5_board rfl (by decide +kernel) ⟨by decide, by decide⟩ rfl hl.1 rfl (Nat.le_of_ble_eq_true rfl) dL_law_809 ⟨Nat.le_trans (Nat.add_le_add_left (by decide) _) hc, Nat.le_trans (Nat.add_le_add_left (by decide) _) hs⟩ X.1 cells slots ⟨rfl, rfl⟩ (fun v H locs hv hS1 => ?_)
  obtain ⟨rfl, a2, G2, ha2, hG2, hw⟩ := hv
  have X : zX D s.heap.size (zj (layC cA a2 G2 (fBoard S y1 y2).2) (layM cA am S U)) s.heap H locs := ⟨hw, hS1⟩
  refine lv_aload_n E.1 E.2.1 dL_law_812 rfl (lv_at hl 2 rfl) ?_
  refine lv_aload_n E.1 E.2.1 dL_law_813 rfl (lv_at hl 0 rfl) ?_
  refine lv_iload_n E.1 E.2.1 dL_law_814 rfl (lv_at hl 3 rfl) ?_
  refine z_iconst E dL_law_815 ?_
  refine z_iadd E dL_law_816 ?_
  refine z_sld E X hX hbl (6 * n + 1) (by omega) (by omega) hN hy1 dL_law_817 ?_
  refine lv_aload_n E.1 E.2.1 dL_law_818 rfl (lv_at hl 0 rfl) ?_
  refine lv_iload_n E.1 E.2.1 dL_law_819 rfl (lv_at hl 3 rfl) ?_
  refine z_iconst E dL_law_820 ?_
  refine z_iadd E dL_law_821 ?_
  refine z_sld E X hX hbl (6 * n + 2) (by omega) (by omega) hN hy2 dL_law_822 ?_
  refine z_callV (As := [.int (i32 y1), .int (i32 y2)]) (rest := [.int (i32 (fBoard S y1 y2).1)]) (n := 2) E X (lM_0 (layC cA a2 G2 (fBoard S y1 y2).2) cA am S U) rfl (M_board l D cA s.heap.size (layC cA a2 G2 (fBoard S y1 y2).2) am S U hI hC y1 y2 r1 r2) gL_law_X6_board rfl (by decide +kernel) ⟨by decide, by decide⟩ rfl hl.1 rfl (Nat.le_of_ble_eq_true rfl) dL_law_823 ⟨Nat.le_trans (by show cells + 0 ≤ cells + 2; omega) hc, Nat.le_trans (by show slots + 0 ≤ slots + 1586; omega) hs⟩ X.1 cells slots ⟨rfl, rfl⟩ (fun v H locs hv hS2 => ?_)
  obtain ⟨rfl, U2, hC2, hw⟩ := hv
  refine lv_icmp_eq (tgt := 1247) E.1 E.2.1 dL_law_826 (by decide) (fun _ => ?_) (fun h => absurd rfl h)
  refine W.widen (k := cells + 2) (n := slots + 1586) (by omega) (by omega) ?_
  exact kk a2 am G2 (fBoard S y1 y2).2 U2 H locs ls ⟨hw, hS2⟩ (SI_fBoard hI) hG2 hC2 ha2 rfl hl
set_option maxHeartbeats 4000000 in
set_option maxRecDepth 100000 in
theorem lc_tell {p : Program} {l : Launch} {e : Env} {s : State} {m : MethodId} {below : List Frame} {meth : Method} {c : Code} {D : va_G} {cA : Nat → ClassId} {b N : Nat} {xs : Nat → Int32} (E : zE p s m #[Value.ref b] meth c cL_law RL meth.name wsL_law 4 ret D cA) (hX : va_X b N xs s s.heap) (hbl : b < s.heap.size) (hN : N ≤ 3072) {n : Nat} (hn : 6 * n + 6 ≤ N) {q0 q1 : Nat} {a : Nat → Nat → Nat} {am : Nat → Nat} {G : zG} {S U : zS} {H : Heap} {locs : List Loc} {ls : Array Slot} (X : zX D s.heap.size (zj (layC cA a G S) (layM cA am S U)) s.heap H locs) (hI : SI S) (hG : CG S G) (hC : MC S U) (ha : a 0 0 = q0) (hm : am 0 = q1) (hl : lv_has ls 4 [(0, .ref b), (1, .ref q0), (2, .ref q1), (3, .int (i32 ((6 * n : Nat) : Int)))]) {cells slots : Nat} (hc : cells + 2 ≤ room_1.cells) (hs : slots + 1586 ≤ room_1.slots) {Q : State → Prop} (kk : ∀ (a : Nat → Nat → Nat) (am : Nat → Nat) (G : zG) (S U : zS) (H : Heap) (locs : List Loc) (ls : Array Slot), zX D s.heap.size (zj (layC cA a G S) (layM cA am S U)) s.heap H locs → SI S → CG S G → MC S U → a 0 0 = q0 → am 0 = q1 → lv_has ls 4 [(0, .ref b), (1, .ref q0), (2, .ref q1), (3, .int (i32 ((6 * n : Nat) : Int)))] → W p l e room_1 s m #[Value.ref b] below meth c H locs (cells + 2) (slots + 1586) Q (F0 m 1247 ls [])) : W p l e room_1 s m #[Value.ref b] below meth c H locs cells slots Q (F0 m 831 ls []) := by
  subst ha
  subst hm
  obtain ⟨y1, hy1⟩ : ∃ y : Int, y = (xs (6 * n + 1)).toInt := ⟨_, rfl⟩
  have r1 : zr y1 := by rw [hy1]; exact i32_rng _
  obtain ⟨y2, hy2⟩ : ∃ y : Int, y = (xs (6 * n + 2)).toInt := ⟨_, rfl⟩
  have r2 : zr y2 := by rw [hy2]; exact i32_rng _
  obtain ⟨y3, hy3⟩ : ∃ y : Int, y = (xs (6 * n + 3)).toInt := ⟨_, rfl⟩
  have r3 : zr y3 := by rw [hy3]; exact i32_rng _
  refine lv_aload_n E.1 E.2.1 dL_law_831 rfl (lv_at hl 1 rfl) ?_
  refine lv_aload_n E.1 E.2.1 dL_law_832 rfl (lv_at hl 0 rfl) ?_
  refine lv_iload_n E.1 E.2.1 dL_law_833 rfl (lv_at hl 3 rfl) ?_
  refine z_iconst E dL_law_834 ?_
  refine z_iadd E dL_law_835 ?_
  refine z_sld E X hX hbl (6 * n + 1) (by omega) (by omega) hN hy1 dL_law_836 ?_
  refine lv_aload_n E.1 E.2.1 dL_law_837 rfl (lv_at hl 0 rfl) ?_
  refine lv_iload_n E.1 E.2.1 dL_law_838 rfl (lv_at hl 3 rfl) ?_
  refine z_iconst E dL_law_839 ?_
  refine z_iadd E dL_law_840 ?_
  refine z_sld E X hX hbl (6 * n + 2) (by omega) (by omega) hN hy2 dL_law_841 ?_
  refine lv_aload_n E.1 E.2.1 dL_law_842 rfl (lv_at hl 0 rfl) ?_
  refine lv_iload_n E.1 E.2.1 dL_law_843 rfl (lv_at hl 3 rfl) ?_
  refine z_iconst E dL_law_844 ?_
  refine z_iadd E dL_law_845 ?_
  refine z_sld E X hX hbl (6 * n + 3) (by omega) (by omega) hN hy3 dL_law_846 ?_
  refine z_callV (As := [.int (i32 y1), .int (i32 y2), .int (i32 y3)]) (rest := []) (n := 3) E X (lC_0 (layM cA am S U) cA a G S) rfl (X_tell l D cA s.heap.size (layM cA am S U) a G S hI hG y1 y2 y3 r1 r2 r3) gL_law_X5_tell rfl (by decide +kernel) ⟨by decide, by decide⟩ rfl hl.1 rfl (Nat.le_of_ble_eq_true rfl) dL_law_847 ⟨Nat.le_trans (Nat.add_le_add_left (by decide) _) hc, Nat.le_trans (Nat.add_le_add_left (by decide) _) hs⟩ X.1 (cells + 1) (slots + 3) ⟨rfl, rfl⟩ (fun v H locs hv hS1 => ?_)
  obtain ⟨rfl, a2, G2, ha2, hG2, hw⟩ := hv
  have X : zX D s.heap.size (zj (layC cA a2 G2 (fTell S y1 y2 y3).2) (layM cA am S U)) s.heap H locs := ⟨hw, hS1⟩
  refine lv_aload_n E.1 E.2.1 dL_law_850 rfl (lv_at hl 2 rfl) ?_
  refine lv_aload_n E.1 E.2.1 dL_law_851 rfl (lv_at hl 0 rfl) ?_
  refine lv_iload_n E.1 E.2.1 dL_law_852 rfl (lv_at hl 3 rfl) ?_
  refine z_iconst E dL_law_853 ?_
  refine z_iadd E dL_law_854 ?_
  refine z_sld E X hX hbl (6 * n + 1) (by omega) (by omega) hN hy1 dL_law_855 ?_
  refine lv_aload_n E.1 E.2.1 dL_law_856 rfl (lv_at hl 0 rfl) ?_
  refine lv_iload_n E.1 E.2.1 dL_law_857 rfl (lv_at hl 3 rfl) ?_
  refine z_iconst E dL_law_858 ?_
  refine z_iadd E dL_law_859 ?_
  refine z_sld E X hX hbl (6 * n + 2) (by omega) (by omega) hN hy2 dL_law_860 ?_
  refine lv_aload_n E.1 E.2.1 dL_law_861 rfl (lv_at hl 0 rfl) ?_
  refine lv_iload_n E.1 E.2.1 dL_law_862 rfl (lv_at hl 3 rfl) ?_
  refine z_iconst E dL_law_863 ?_
  refine z_iadd E dL_law_864 ?_
  refine z_sld E X hX hbl (6 * n + 3) (by omega) (by omega) hN hy3 dL_law_865 ?_
  refine z_callV (As := [.int (i32 y1), .int (i32 y2), .int (i32 y3)]) (rest := [.int (i32 (fTell S y1 y2 y3).1)]) (n := 3) E X (lM_0 (layC cA a2 G2 (fTell S y1 y2 y3).2) cA am S U) rfl (M_tell l D cA s.heap.size (layC cA a2 G2 (fTell S y1 y2 y3).2) am S U hI hC y1 y2 y3 r1 r2 r3) gL_law_X6_tell rfl (by decide +kernel) ⟨by decide, by decide⟩ rfl hl.1 rfl (Nat.le_of_ble_eq_true rfl) dL_law_866 ⟨Nat.le_trans (by show (cells + 1) + 0 ≤ cells + 2; omega) hc, Nat.le_trans (by show (slots + 3) + 0 ≤ slots + 1586; omega) hs⟩ X.1 (cells + 1) (slots + 3) ⟨rfl, rfl⟩ (fun v H locs hv hS2 => ?_)
  obtain ⟨rfl, U2, hC2, hw⟩ := hv
  refine lv_icmp_eq (tgt := 1247) E.1 E.2.1 dL_law_869 (by decide) (fun _ => ?_) (fun h => absurd rfl h)
  refine W.widen (k := cells + 2) (n := slots + 1586) (by omega) (by omega) ?_
  exact kk a2 am G2 (fTell S y1 y2 y3).2 U2 H locs ls ⟨hw, hS2⟩ (SI_fTell hI) hG2 hC2 ha2 rfl hl
set_option maxHeartbeats 4000000 in
set_option maxRecDepth 100000 in
theorem lc_forget {p : Program} {l : Launch} {e : Env} {s : State} {m : MethodId} {below : List Frame} {meth : Method} {c : Code} {D : va_G} {cA : Nat → ClassId} {b N : Nat} {xs : Nat → Int32} (E : zE p s m #[Value.ref b] meth c cL_law RL meth.name wsL_law 4 ret D cA) (hX : va_X b N xs s s.heap) (hbl : b < s.heap.size) (hN : N ≤ 3072) {n : Nat} (hn : 6 * n + 6 ≤ N) {q0 q1 : Nat} {a : Nat → Nat → Nat} {am : Nat → Nat} {G : zG} {S U : zS} {H : Heap} {locs : List Loc} {ls : Array Slot} (X : zX D s.heap.size (zj (layC cA a G S) (layM cA am S U)) s.heap H locs) (hI : SI S) (hG : CG S G) (hC : MC S U) (ha : a 0 0 = q0) (hm : am 0 = q1) (hl : lv_has ls 4 [(0, .ref b), (1, .ref q0), (2, .ref q1), (3, .int (i32 ((6 * n : Nat) : Int)))]) {cells slots : Nat} (hc : cells + 2 ≤ room_1.cells) (hs : slots + 1586 ≤ room_1.slots) {Q : State → Prop} (kk : ∀ (a : Nat → Nat → Nat) (am : Nat → Nat) (G : zG) (S U : zS) (H : Heap) (locs : List Loc) (ls : Array Slot), zX D s.heap.size (zj (layC cA a G S) (layM cA am S U)) s.heap H locs → SI S → CG S G → MC S U → a 0 0 = q0 → am 0 = q1 → lv_has ls 4 [(0, .ref b), (1, .ref q0), (2, .ref q1), (3, .int (i32 ((6 * n : Nat) : Int)))] → W p l e room_1 s m #[Value.ref b] below meth c H locs (cells + 2) (slots + 1586) Q (F0 m 1247 ls [])) : W p l e room_1 s m #[Value.ref b] below meth c H locs cells slots Q (F0 m 874 ls []) := by
  subst ha
  subst hm
  refine lv_aload_n E.1 E.2.1 dL_law_874 rfl (lv_at hl 1 rfl) ?_
  refine z_callV (As := []) (rest := []) (n := 0) E X (lC_0 (layM cA am S U) cA a G S) rfl (X_forget l D cA s.heap.size (layM cA am S U) a G S hI hG) gL_law_X5_forget rfl (by decide +kernel) ⟨by decide, by decide⟩ rfl hl.1 rfl (Nat.le_of_ble_eq_true rfl) dL_law_875 ⟨Nat.le_trans (Nat.add_le_add_left (by decide) _) hc, Nat.le_trans (Nat.add_le_add_left (by decide) _) hs⟩ X.1 cells slots ⟨rfl, rfl⟩ (fun v H locs hv hS1 => ?_)
  obtain ⟨rfl, a2, G2, ha2, hG2, hw⟩ := hv
  have X : zX D s.heap.size (zj (layC cA a2 G2 (fForget S).2) (layM cA am S U)) s.heap H locs := ⟨hw, hS1⟩
  refine lv_aload_n E.1 E.2.1 dL_law_878 rfl (lv_at hl 2 rfl) ?_
  refine z_callV (As := []) (rest := [.int (i32 (fForget S).1)]) (n := 0) E X (lM_0 (layC cA a2 G2 (fForget S).2) cA am S U) rfl (M_forget l D cA s.heap.size (layC cA a2 G2 (fForget S).2) am S U hI hC) gL_law_X6_forget rfl (by decide +kernel) ⟨by decide, by decide⟩ rfl hl.1 rfl (Nat.le_of_ble_eq_true rfl) dL_law_879 ⟨Nat.le_trans (by show cells + 0 ≤ cells + 2; omega) hc, Nat.le_trans (by show slots + 0 ≤ slots + 1586; omega) hs⟩ X.1 cells slots ⟨rfl, rfl⟩ (fun v H locs hv hS2 => ?_)
  obtain ⟨rfl, U2, hC2, hw⟩ := hv
  refine lv_icmp_eq (tgt := 1247) E.1 E.2.1 dL_law_882 (by decide) (fun _ => ?_) (fun h => absurd rfl h)
  refine W.widen (k := cells + 2) (n := slots + 1586) (by omega) (by omega) ?_
  exact kk a2 am G2 (fForget S).2 U2 H locs ls ⟨hw, hS2⟩ (SI_fForget hI) hG2 hC2 ha2 rfl hl
set_option maxHeartbeats 4000000 in
set_option maxRecDepth 100000 in
theorem lc_places {p : Program} {l : Launch} {e : Env} {s : State} {m : MethodId} {below : List Frame} {meth : Method} {c : Code} {D : va_G} {cA : Nat → ClassId} {b N : Nat} {xs : Nat → Int32} (E : zE p s m #[Value.ref b] meth c cL_law RL meth.name wsL_law 4 ret D cA) (hX : va_X b N xs s s.heap) (hbl : b < s.heap.size) (hN : N ≤ 3072) {n : Nat} (hn : 6 * n + 6 ≤ N) {q0 q1 : Nat} {a : Nat → Nat → Nat} {am : Nat → Nat} {G : zG} {S U : zS} {H : Heap} {locs : List Loc} {ls : Array Slot} (X : zX D s.heap.size (zj (layC cA a G S) (layM cA am S U)) s.heap H locs) (hI : SI S) (hG : CG S G) (hC : MC S U) (ha : a 0 0 = q0) (hm : am 0 = q1) (hl : lv_has ls 4 [(0, .ref b), (1, .ref q0), (2, .ref q1), (3, .int (i32 ((6 * n : Nat) : Int)))]) {cells slots : Nat} (hc : cells + 2 ≤ room_1.cells) (hs : slots + 1586 ≤ room_1.slots) {Q : State → Prop} (kk : ∀ (a : Nat → Nat → Nat) (am : Nat → Nat) (G : zG) (S U : zS) (H : Heap) (locs : List Loc) (ls : Array Slot), zX D s.heap.size (zj (layC cA a G S) (layM cA am S U)) s.heap H locs → SI S → CG S G → MC S U → a 0 0 = q0 → am 0 = q1 → lv_has ls 4 [(0, .ref b), (1, .ref q0), (2, .ref q1), (3, .int (i32 ((6 * n : Nat) : Int)))] → W p l e room_1 s m #[Value.ref b] below meth c H locs (cells + 2) (slots + 1586) Q (F0 m 1247 ls [])) : W p l e room_1 s m #[Value.ref b] below meth c H locs cells slots Q (F0 m 887 ls []) := by
  subst ha
  subst hm
  obtain ⟨y1, hy1⟩ : ∃ y : Int, y = (xs (6 * n + 1)).toInt := ⟨_, rfl⟩
  have r1 : zr y1 := by rw [hy1]; exact i32_rng _
  refine lv_aload_n E.1 E.2.1 dL_law_887 rfl (lv_at hl 1 rfl) ?_
  refine lv_aload_n E.1 E.2.1 dL_law_888 rfl (lv_at hl 0 rfl) ?_
  refine lv_iload_n E.1 E.2.1 dL_law_889 rfl (lv_at hl 3 rfl) ?_
  refine z_iconst E dL_law_890 ?_
  refine z_iadd E dL_law_891 ?_
  refine z_sld E X hX hbl (6 * n + 1) (by omega) (by omega) hN hy1 dL_law_892 ?_
  refine z_callV (As := [.int (i32 y1)]) (rest := []) (n := 1) E X (lC_0 (layM cA am S U) cA a G S) rfl (X_places l D cA s.heap.size (layM cA am S U) a G S hI hG y1 r1) gL_law_X5_places rfl (by decide +kernel) ⟨by decide, by decide⟩ rfl hl.1 rfl (Nat.le_of_ble_eq_true rfl) dL_law_893 ⟨Nat.le_trans (Nat.add_le_add_left (by decide) _) hc, Nat.le_trans (Nat.add_le_add_left (by decide) _) hs⟩ X.1 cells slots ⟨rfl, rfl⟩ (fun v H locs hv hS1 => ?_)
  obtain ⟨rfl, a2, G2, ha2, hG2, hw⟩ := hv
  have X : zX D s.heap.size (zj (layC cA a2 G2 (fPlaces S y1).2) (layM cA am S U)) s.heap H locs := ⟨hw, hS1⟩
  refine lv_aload_n E.1 E.2.1 dL_law_896 rfl (lv_at hl 2 rfl) ?_
  refine lv_aload_n E.1 E.2.1 dL_law_897 rfl (lv_at hl 0 rfl) ?_
  refine lv_iload_n E.1 E.2.1 dL_law_898 rfl (lv_at hl 3 rfl) ?_
  refine z_iconst E dL_law_899 ?_
  refine z_iadd E dL_law_900 ?_
  refine z_sld E X hX hbl (6 * n + 1) (by omega) (by omega) hN hy1 dL_law_901 ?_
  refine z_callV (As := [.int (i32 y1)]) (rest := [.int (i32 (fPlaces S y1).1)]) (n := 1) E X (lM_0 (layC cA a2 G2 (fPlaces S y1).2) cA am S U) rfl (M_places l D cA s.heap.size (layC cA a2 G2 (fPlaces S y1).2) am S U hI hC y1 r1) gL_law_X6_places rfl (by decide +kernel) ⟨by decide, by decide⟩ rfl hl.1 rfl (Nat.le_of_ble_eq_true rfl) dL_law_902 ⟨Nat.le_trans (by show cells + 0 ≤ cells + 2; omega) hc, Nat.le_trans (by show slots + 0 ≤ slots + 1586; omega) hs⟩ X.1 cells slots ⟨rfl, rfl⟩ (fun v H locs hv hS2 => ?_)
  obtain ⟨rfl, U2, hC2, hw⟩ := hv
  refine lv_icmp_eq (tgt := 1247) E.1 E.2.1 dL_law_905 (by decide) (fun _ => ?_) (fun h => absurd rfl h)
  refine W.widen (k := cells + 2) (n := slots + 1586) (by omega) (by omega) ?_
  exact kk a2 am G2 (fPlaces S y1).2 U2 H locs ls ⟨hw, hS2⟩ (SI_fPlaces hI) hG2 hC2 ha2 rfl hl
