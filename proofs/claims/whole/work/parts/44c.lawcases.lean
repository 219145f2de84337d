set_option maxHeartbeats 4000000 in
set_option maxRecDepth 100000 in
theorem lc_place {p : Program} {l : Launch} {e : Env} {s : State} {m : MethodId} {below : List Frame} {meth : Method} {c : Code} {D : va_G} {cA : Nat → ClassId} {b N : Nat} {xs : Nat → Int32} (E : zE p s m #[Value.ref b] meth c cL_law RL meth.name wsL_law 4 ret D cA) (hX : va_X b N xs s s.heap) (hbl : b < s.heap.size) (hN : N ≤ 3072) {n : Nat} (hn : 6 * n + 6 ≤ N) {q0 q1 : Nat} {a : Nat → Nat → Nat} {am : Nat → Nat} {G : zG} {S U : zS} {H : Heap} {locs : List Loc} {ls : Array Slot} (X : zX D s.heap.size (zj (layC cA a G S) (layM cA am S U)) s.heap H locs) (hI : SI S) (hG : CG S G) (hC : MC S U) (ha : a 0 0 = q0) (hm : am 0 = q1) (hl : lv_has ls 4 [(0, .ref b), (1, .ref q0), (2, .ref q1), (3, .int (i32 ((6 * n : Nat) : Int)))]) {cells slots : Nat} (hc : cells + 2 ≤ room_1.cells) (hs : slots + 1586 ≤ room_1.slots) {Q : State → Prop} (kk : ∀ (a : Nat → Nat → Nat) (am : Nat → Nat) (G : zG) (S U : zS) (H : Heap) (locs : List Loc) (ls : Array Slot), zX D s.heap.size (zj (layC cA a G S) (layM cA am S U)) s.heap H locs → SI S → CG S G → MC S U → a 0 0 = q0 → am 0 = q1 → lv_has ls 4 [(0, .ref b), (1, .ref q0), (2, .ref q1), (3, .int (i32 ((6 * n : Nat) : Int)))] → W p l e room_1 s m #[Value.ref b] below meth c H locs (cells + 2) (slots + 1586) Q (F0 m 1247 ls [])) : W p l e room_1 s m #[Value.ref b] below meth c H locs cells slots Q (F0 m 910 ls []) := by
  subst ha
  subst hm
  obtain ⟨y1, hy1⟩ : ∃ y : Int, y = (xs (6 * n + 1)).toInt := ⟨_, rfl⟩
  have r1 : zr y1 := by rw [hy1]; exact i32_rng _
  obtain ⟨y2, hy2⟩ : ∃ y : Int, y = (xs (6 * n + 2)).toInt := ⟨_, rfl⟩
  have r2 : zr y2 := by rw [hy2]; exact i32_rng _
  refine lv_aload_n E.1 E.2.1 dL_law_910 rfl (lv_at hl 1 rfl) ?_
  refine lv_aload_n E.1 E.2.1 dL_law_911 rfl (lv_at hl 0 rfl) ?_
  refine lv_iload_n E.1 E.2.1 dL_law_912 rfl (lv_at hl 3 rfl) ?_
  refine z_iconst E dL_law_913 ?_
  refine z_iadd E dL_law_914 ?_
  refine z_sld E X hX hbl (6 * n + 1) (by omega) (by omega) hN hy1 dL_law_915 ?_
  refine lv_aload_n E.1 E.2.1 dL_law_916 rfl (lv_at hl 0 rfl) ?_
  refine lv_iload_n E.1 E.2.1 dL_law_917 rfl (lv_at hl 3 rfl) ?_
  refine z_iconst E dL_law_918 ?_
  refine z_iadd E dL_law_919 ?_
  refine z_sld E X hX hbl (6 * n + 2) (by omega) (by omega) hN hy2 dL_law_920 ?_
  refine z_callV (As := [.int (i32 y1), .int (i32 y2)]) (rest := []) (n := 2) E X (lC_0 (layM cA am S U) cA a G S) rfl (X_place l D cA s.heap.size (layM cA am S U) a G S hI hG y1 y2 r1 r2) gL_law_X5_place rfl (by decide +kernel) ⟨by decide, by decide⟩ rfl hl.1 rfl (Nat.le_of_ble_eq_true rfl) dL_law_921 ⟨Nat.le_trans (Nat.add_le_add_left (by decide) _) hc, Nat.le_trans (Nat.add_le_add_left (by decide) _) hs⟩ X.1 cells slots ⟨rfl, rfl⟩ (fun v H locs hv hS1 => ?_)
  obtain ⟨rfl, a2, G2, ha2, hG2, hw⟩ := hv
  have X : zX D s.heap.size (zj (layC cA a2 G2 (fPlace S y1 y2).2) (layM cA am S U)) s.heap H locs := ⟨hw, hS1⟩
  refine lv_aload_n E.1 E.2.1 dL_law_924 rfl (lv_at hl 2 rfl) ?_
  refine lv_aload_n E.1 E.2.1 dL_law_925 rfl (lv_at hl 0 rfl) ?_
  refine lv_iload_n E.1 E.2.1 dL_law_926 rfl (lv_at hl 3 rfl) ?_
  refine z_iconst E dL_law_927 ?_
  refine z_iadd E dL_law_928 ?_
  refine z_sld E X hX hbl (6 * n + 1) (by omega) (by omega) hN hy1 dL_law_929 ?_
  refine lv_aload_n E.1 E.2.1 dL_law_930 rfl (lv_at hl 0 rfl) ?_
  refine lv_iload_n E.1 E.2.1 dL_law_931 rfl (lv_at hl 3 rfl) ?_
  refine z_iconst E dL_law_932 ?_
  refine z_iadd E dL_law_933 ?_
  refine z_sld E X hX hbl (6 * n + 2) (by omega) (by omega) hN hy2 dL_law_934 ?_
  refine z_callV (As := [.int (i32 y1), .int (i32 y2)]) (rest := [.int (i32 (fPlace S y1 y2).1)]) (n := 2) E X (lM_0 (layC cA a2 G2 (fPlace S y1 y2).2) cA am S U) rfl (M_place l D cA s.heap.size (layC cA a2 G2 (fPlace S y1 y2).2) am S U hI hC y1 y2 r1 r2) gL_law_X6_place rfl (by decide +kernel) ⟨by decide, by decide⟩ rfl hl.1 rfl (Nat.le_of_ble_eq_true rfl) dL_law_935 ⟨Nat.le_trans (by show cells + 0 ≤ cells + 2; omega) hc, Nat.le_trans (by show slots + 0 ≤ slots + 1586; omega) hs⟩ X.1 cells slots ⟨rfl, rfl⟩ (fun v H locs hv hS2 => ?_)
  obtain ⟨rfl, U2, hC2, hw⟩ := hv
  refine lv_icmp_eq (tgt := 1247) E.1 E.2.1 dL_law_938 (by decide) (fun _ => ?_) (fun h => absurd rfl h)
  refine W.widen (k := cells + 2) (n := slots + 1586) (by omega) (by omega) ?_
  exact kk a2 am G2 (fPlace S y1 y2).2 U2 H locs ls ⟨hw, hS2⟩ (SI_fPlace hI) hG2 hC2 ha2 rfl hl
set_option maxHeartbeats 4000000 in
set_option maxRecDepth 100000 in
theorem lc_sheet {p : Program} {l : Launch} {e : Env} {s : State} {m : MethodId} {below : List Frame} {meth : Method} {c : Code} {D : va_G} {cA : Nat → ClassId} {b N : Nat} {xs : Nat → Int32} (E : zE p s m #[Value.ref b] meth c cL_law RL meth.name wsL_law 4 ret D cA) (hX : va_X b N xs s s.heap) (hbl : b < s.heap.size) (hN : N ≤ 3072) {n : Nat} (hn : 6 * n + 6 ≤ N) {q0 q1 : Nat} {a : Nat → Nat → Nat} {am : Nat → Nat} {G : zG} {S U : zS} {H : Heap} {locs : List Loc} {ls : Array Slot} (X : zX D s.heap.size (zj (layC cA a G S) (layM cA am S U)) s.heap H locs) (hI : SI S) (hG : CG S G) (hC : MC S U) (ha : a 0 0 = q0) (hm : am 0 = q1) (hl : lv_has ls 4 [(0, .ref b), (1, .ref q0), (2, .ref q1), (3, .int (i32 ((6 * n : Nat) : Int)))]) {cells slots : Nat} (hc : cells + 2 ≤ room_1.cells) (hs : slots + 1586 ≤ room_1.slots) {Q : State → Prop} (kk : ∀ (a : Nat → Nat → Nat) (am : Nat → Nat) (G : zG) (S U : zS) (H : Heap) (locs : List Loc) (ls : Array Slot), zX D s.heap.size (zj (layC cA a G S) (layM cA am S U)) s.heap H locs → SI S → CG S G → MC S U → a 0 0 = q0 → am 0 = q1 → lv_has ls 4 [(0, .ref b), (1, .ref q0), (2, .ref q1), (3, .int (i32 ((6 * n : Nat) : Int)))] → W p l e room_1 s m #[Value.ref b] below meth c H locs (cells + 2) (slots + 1586) Q (F0 m 1247 ls [])) : W p l e room_1 s m #[Value.ref b] below meth c H locs cells slots Q (F0 m 943 ls []) := by
  subst ha
  subst hm
  obtain ⟨y1, hy1⟩ : ∃ y : Int, y = (xs (6 * n + 1)).toInt := ⟨_, rfl⟩
  have r1 : zr y1 := by rw [hy1]; exact i32_rng _
  obtain ⟨y2, hy2⟩ : ∃ y : Int, y = (xs (6 * n + 2)).toInt := ⟨_, rfl⟩
  have r2 : zr y2 := by rw [hy2]; exact i32_rng _
  obtain ⟨y3, hy3⟩ : ∃ y : Int, y = (xs (6 * n + 3)).toInt := ⟨_, rfl⟩
  have r3 : zr y3 := by rw [hy3]; exact i32_rng _
  refine lv_aload_n E.1 E.2.1 dL_law_943 rfl (lv_at hl 1 rfl) ?_
  refine lv_aload_n E.1 E.2.1 dL_law_944 rfl (lv_at hl 0 rfl) ?_
  refine lv_iload_n E.1 E.2.1 dL_law_945 rfl (lv_at hl 3 rfl) ?_
  refine z_iconst E dL_law_946 ?_
  refine z_iadd E dL_law_947 ?_
  refine z_sld E X hX hbl (6 * n + 1) (by omega) (by omega) hN hy1 dL_law_948 ?_
  refine lv_aload_n E.1 E.2.1 dL_law_949 rfl (lv_at hl 0 rfl) ?_
  refine lv_iload_n E.1 E.2.1 dL_law_950 rfl (lv_at hl 3 rfl) ?_
  refine z_iconst E dL_law_951 ?_
  refine z_iadd E dL_law_952 ?_
  refine z_sld E X hX hbl (6 * n + 2) (by omega) (by omega) hN hy2 dL_law_953 ?_
  refine lv_aload_n E.1 E.2.1 dL_law_954 rfl (lv_at hl 0 rfl) ?_
  refine lv_iload_n E.1 E.2.1 dL_law_955 rfl (lv_at hl 3 rfl) ?_
  refine z_iconst E dL_law_956 ?_
  refine z_iadd E dL_law_957 ?_
  refine z_sld E X hX hbl (6 * n + 3) (by omega) (by omega) hN hy3 dL_law_958 ?_
  refine z_callV (As := [.int (i32 y1), .int (i32 y2), .int (i32 y3)]) (rest := []) (n := 3) E X (lC_0 (layM cA am S U) cA a G S) rfl (X_sheet l D cA s.heap.size (layM cA am S U) a G S hI hG y1 y2 y3 r1 r2 r3) gL_law_X5_sheet rfl (by decide +kernel) ⟨by decide, by decide⟩ rfl hl.1 rfl (Nat.le_of_ble_eq_true rfl) dL_law_959 ⟨Nat.le_trans (Nat.add_le_add_left (by decide) _) hc, Nat.le_trans (Nat.add_le_add_left (by decide) _) hs⟩ X.1 (cells + 2) (slots + 66) ⟨rfl, rfl⟩ (fun v H locs hv hS1 => ?_)
  obtain ⟨rfl, a2, G2, ha2, hG2, hw⟩ := hv
  have X : zX D s.heap.size (zj (layC cA a2 G2 (fSheet S y1 y2 y3).2) (layM cA am S U)) s.heap H locs := ⟨hw, hS1⟩
  refine lv_aload_n E.1 E.2.1 dL_law_962 rfl (lv_at hl 2 rfl) ?_
  refine lv_aload_n E.1 E.2.1 dL_law_963 rfl (lv_at hl 0 rfl) ?_
  refine lv_iload_n E.1 E.2.1 dL_law_964 rfl (lv_at hl 3 rfl) ?_
  refine z_iconst E dL_law_965 ?_
  refine z_iadd E dL_law_966 ?_
  refine z_sld E X hX hbl (6 * n + 1) (by omega) (by omega) hN hy1 dL_law_967 ?_
  refine lv_aload_n E.1 E.2.1 dL_law_968 rfl (lv_at hl 0 rfl) ?_
  refine lv_iload_n E.1 E.2.1 dL_law_969 rfl (lv_at hl 3 rfl) ?_
  refine z_iconst E dL_law_970 ?_
  refine z_iadd E dL_law_971 ?_
  refine z_sld E X hX hbl (6 * n + 2) (by omega) (by omega) hN hy2 dL_law_972 ?_
  refine lv_aload_n E.1 E.2.1 dL_law_973 rfl (lv_at hl 0 rfl) ?_
  refine lv_iload_n E.1 E.2.1 dL_law_974 rfl (lv_at hl 3 rfl) ?_
  refine z_iconst E dL_law_975 ?_
  refine z_iadd E dL_law_976 ?_
  refine z_sld E X hX hbl (6 * n + 3) (by omega) (by omega) hN hy3 dL_law_977 ?_
  refine z_callV (As := [.int (i32 y1), .int (i32 y2), .int (i32 y3)]) (rest := [.int (i32 (fSheet S y1 y2 y3).1)]) (n := 3) E X (lM_0 (layC cA a2 G2 (fSheet S y1 y2 y3).2) cA am S U) rfl (M_sheet l D cA s.heap.size (layC cA a2 G2 (fSheet S y1 y2 y3).2) am S U hI hC y1 y2 y3 r1 r2 r3) gL_law_X6_sheet rfl (by decide +kernel) ⟨by decide, by decide⟩ rfl hl.1 rfl (Nat.le_of_ble_eq_true rfl) dL_law_978 ⟨Nat.le_trans (by show (cells + 2) + 0 ≤ cells + 2; omega) hc, Nat.le_trans (by show (slots + 66) + 0 ≤ slots + 1586; omega) hs⟩ X.1 (cells + 2) (slots + 66) ⟨rfl, rfl⟩ (fun v H locs hv hS2 => ?_)
  obtain ⟨rfl, U2, hC2, hw⟩ := hv
  refine lv_icmp_eq (tgt := 1247) E.1 E.2.1 dL_law_981 (by decide) (fun _ => ?_) (fun h => absurd rfl h)
  refine W.widen (k := cells + 2) (n := slots + 1586) (by omega) (by omega) ?_
  exact kk a2 am G2 (fSheet S y1 y2 y3).2 U2 H locs ls ⟨hw, hS2⟩ (SI_fSheet hI) hG2 hC2 ha2 rfl hl
set_option maxHeartbeats 4000000 in
set_option maxRecDepth 100000 in
theorem lc_tear {p : Program} {l : Launch} {e : Env} {s : State} {m : MethodId} {below : List Frame} {meth : Method} {c : Code} {D : va_G} {cA : Nat → ClassId} {b N : Nat} {xs : Nat → Int32} (E : zE p s m #[Value.ref b] meth c cL_law RL meth.name wsL_law 4 ret D cA) (hX : va_X b N xs s s.heap) (hbl : b < s.heap.size) (hN : N ≤ 3072) {n : Nat} (hn : 6 * n + 6 ≤ N) {q0 q1 : Nat} {a : Nat → Nat → Nat} {am : Nat → Nat} {G : zG} {S U : zS} {H : Heap} {locs : List Loc} {ls : Array Slot} (X : zX D s.heap.size (zj (layC cA a G S) (layM cA am S U)) s.heap H locs) (hI : SI S) (hG : CG S G) (hC : MC S U) (ha : a 0 0 = q0) (hm : am 0 = q1) (hl : lv_has ls 4 [(0, .ref b), (1, .ref q0), (2, .ref q1), (3, .int (i32 ((6 * n : Nat) : Int)))]) {cells slots : Nat} (hc : cells + 2 ≤ room_1.cells) (hs : slots + 1586 ≤ room_1.slots) {Q : State → Prop} (kk : ∀ (a : Nat → Nat → Nat) (am : Nat → Nat) (G : zG) (S U : zS) (H : Heap) (locs : List Loc) (ls : Array Slot), zX D s.heap.size (zj (layC cA a G S) (layM cA am S U)) s.heap H locs → SI S → CG S G → MC S U → a 0 0 = q0 → am 0 = q1 → lv_has ls 4 [(0, .ref b), (1, .ref q0), (2, .ref q1), (3, .int (i32 ((6 * n : Nat) : Int)))] → W p l e room_1 s m #[Value.ref b] below meth c H locs (cells + 2) (slots + 1586) Q (F0 m 1247 ls [])) : W p l e room_1 s m #[Value.ref b] below meth c H locs cells slots Q (F0 m 986 ls []) := by
  subst ha
  subst hm
  obtain ⟨y1, hy1⟩ : ∃ y : Int, y = (xs (6 * n + 1)).toInt := ⟨_, rfl⟩
  have r1 : zr y1 := by rw [hy1]; exact i32_rng _
  refine lv_aload_n E.1 E.2.1 dL_law_986 rfl (lv_at hl 1 rfl) ?_
  refine lv_aload_n E.1 E.2.1 dL_law_987 rfl (lv_at hl 0 rfl) ?_
  refine lv_iload_n E.1 E.2.1 dL_law_988 rfl (lv_at hl 3 rfl) ?_
  refine z_iconst E dL_law_989 ?_
  refine z_iadd E dL_law_990 ?_
  refine z_sld E X hX hbl (6 * n + 1) (by omega) (by omega) hN hy1 dL_law_991 ?_
  refine z_callV (As := [.int (i32 y1)]) (rest := []) (n := 1) E X (lC_0 (layM cA am S U) cA a G S) rfl (X_tear l D cA s.heap.size (layM cA am S U) a G S hI hG y1 r1) gL_law_X5_tear rfl (by decide +kernel) ⟨by decide, by decide⟩ rfl hl.1 rfl (Nat.le_of_ble_eq_true rfl) dL_law_992 ⟨Nat.le_trans (Nat.add_le_add_left (by decide) _) hc, Nat.le_trans (Nat.add_le_add_left (by decide) _) hs⟩ X.1 cells slots ⟨rfl, rfl⟩ (fun v H locs hv hS1 => ?_)
  obtain ⟨rfl, a2, G2, ha2, hG2, hw⟩ := hv
  have X : zX D s.heap.size (zj (layC cA a2 G2 (fTear S y1).2) (layM cA am S U)) s.heap H locs := ⟨hw, hS1⟩
  refine lv_aload_n E.1 E.2.1 dL_law_995 rfl (lv_at hl 2 rfl) ?_
  refine lv_aload_n E.1 E.2.1 dL_law_996 rfl (lv_at hl 0 rfl) ?_
  refine lv_iload_n E.1 E.2.1 dL_law_997 rfl (lv_at hl 3 rfl) ?_
  refine z_iconst E dL_law_998 ?_
  refine z_iadd E dL_law_999 ?_
  refine z_sld E X hX hbl (6 * n + 1) (by omega) (by omega) hN hy1 dL_law_1000 ?_
  refine z_callV (As := [.int (i32 y1)]) (rest := [.int (i32 (fTear S y1).1)]) (n := 1) E X (lM_0 (layC cA a2 G2 (fTear S y1).2) cA am S U) rfl (M_tear l D cA s.heap.size (layC cA a2 G2 (fTear S y1).2) am S U hI hC y1 r1) gL_law_X6_tear rfl (by decide +kernel) ⟨by decide, by decide⟩ rfl hl.1 rfl (Nat.le_of_ble_eq_true rfl) dL_law_1001 ⟨Nat.le_trans (by show cells + 0 ≤ cells + 2; omega) hc, Nat.le_trans (by show slots + 0 ≤ slots + 1586; omega) hs⟩ X.1 cells slots ⟨rfl, rfl⟩ (fun v H locs hv hS2 => ?_)
  obtain ⟨rfl, U2, hC2, hw⟩ := hv
  refine lv_icmp_eq (tgt := 1247) E.1 E.2.1 dL_law_1004 (by decide) (fun _ => ?_) (fun h => absurd rfl h)
  refine W.widen (k := cells + 2) (n := slots + 1586) (by omega) (by omega) ?_
  exact kk a2 am G2 (fTear S y1).2 U2 H locs ls ⟨hw, hS2⟩ (SI_fTear hI) hG2 hC2 ha2 rfl hl
set_option maxHeartbeats 4000000 in
set_option maxRecDepth 100000 in
theorem lc_record {p : Program} {l : Launch} {e : Env} {s : State} {m : MethodId} {below : List Frame} {meth : Method} {c : Code} {D : va_G} {cA : Nat → ClassId} {b N : Nat} {xs : Nat → Int32} (E : zE p s m #[Value.ref b] meth c cL_law RL meth.name wsL_law 4 ret D cA) (hX : va_X b N xs s s.heap) (hbl : b < s.heap.size) (hN : N ≤ 3072) {n : Nat} (hn : 6 * n + 6 ≤ N) {q0 q1 : Nat} {a : Nat → Nat → Nat} {am : Nat → Nat} {G : zG} {S U : zS} {H : Heap} {locs : List Loc} {ls : Array Slot} (X : zX D s.heap.size (zj (layC cA a G S) (layM cA am S U)) s.heap H locs) (hI : SI S) (hG : CG S G) (hC : MC S U) (ha : a 0 0 = q0) (hm : am 0 = q1) (hl : lv_has ls 4 [(0, .ref b), (1, .ref q0), (2, .ref q1), (3, .int (i32 ((6 * n : Nat) : Int)))]) {cells slots : Nat} (hc : cells + 2 ≤ room_1.cells) (hs : slots + 1586 ≤ room_1.slots) {Q : State → Prop} (kk : ∀ (a : Nat → Nat → Nat) (am : Nat → Nat) (G : zG) (S U : zS) (H : Heap) (locs : List Loc) (ls : Array Slot), zX D s.heap.size (zj (layC cA a G S) (layM cA am S U)) s.heap H locs → SI S → CG S G → MC S U → a 0 0 = q0 → am 0 = q1 → lv_has ls 4 [(0, .ref b), (1, .ref q0), (2, .ref q1), (3, .int (i32 ((6 * n : Nat) : Int)))] → W p l e room_1 s m #[Value.ref b] below meth c H locs (cells + 2) (slots + 1586) Q (F0 m 1247 ls [])) : W p l e room_1 s m #[Value.ref b] below meth c H locs cells slots Q (F0 m 1009 ls []) := by
  subst ha
  subst hm
  obtain ⟨y1, hy1⟩ : ∃ y : Int, y = (xs (6 * n + 1)).toInt := ⟨_, rfl⟩
  have r1 : zr y1 := by rw [hy1]; exact i32_rng _
  obtain ⟨y2, hy2⟩ : ∃ y : Int, y = (xs (6 * n + 2)).toInt := ⟨_, rfl⟩
  have r2 : zr y2 := by rw [hy2]; exact i32_rng _
  obtain ⟨y3, hy3⟩ : ∃ y : Int, y = (xs (6 * n + 3)).toInt := ⟨_, rfl⟩
  have r3 : zr y3 := by rw [hy3]; exact i32_rng _
  obtain ⟨y4, hy4⟩ : ∃ y : Int, y = (xs (6 * n + 4)).toInt := ⟨_, rfl⟩
  have r4 : zr y4 := by rw [hy4]; exact i32_rng _
  refine lv_aload_n E.1 E.2.1 dL_law_1009 rfl (lv_at hl 1 rfl) ?_
  refine lv_aload_n E.1 E.2.1 dL_law_1010 rfl (lv_at hl 0 rfl) ?_
  refine lv_iload_n E.1 E.2.1 dL_law_1011 rfl (lv_at hl 3 rfl) ?_
  refine z_iconst E dL_law_1012 ?_
  refine z_iadd E dL_law_1013 ?_
  refine z_sld E X hX hbl (6 * n + 1) (by omega) (by omega) hN hy1 dL_law_1014 ?_
  refine lv_aload_n E.1 E.2.1 dL_law_1015 rfl (lv_at hl 0 rfl) ?_
  refine lv_iload_n E.1 E.2.1 dL_law_1016 rfl (lv_at hl 3 rfl) ?_
  refine z_iconst E dL_law_1017 ?_
  refine z_iadd E dL_law_1018 ?_
  refine z_sld E X hX hbl (6 * n + 2) (by omega) (by omega) hN hy2 dL_law_1019 ?_
  refine lv_aload_n E.1 E.2.1 dL_law_1020 rfl (lv_at hl 0 rfl) ?_
  refine lv_iload_n E.1 E.2.1 dL_law_1021 rfl (lv_at hl 3 rfl) ?_
  refine z_iconst E dL_law_1022 ?_
  refine z_iadd E dL_law_1023 ?_
  refine z_sld E X hX hbl (6 * n + 3) (by omega) (by omega) hN hy3 dL_law_1024 ?_
  refine lv_aload_n E.1 E.2.1 dL_law_1025 rfl (lv_at hl 0 rfl) ?_
  refine lv_iload_n E.1 E.2.1 dL_law_1026 rfl (lv_at hl 3 rfl) ?_
  refine z_iconst E dL_law_1027 ?_
  refine z_iadd E dL_law_1028 ?_
  refine z_sld E X hX hbl (6 * n + 4) (by omega) (by omega) hN hy4 dL_law_1029 ?_
  refine z_callV (As := [.int (i32 y1), .int (i32 y2), .int (i32 y3), .int (i32 y4)]) (rest := []) (n := 4) E X (lC_0 (layM cA am S U) cA a G S) rfl (X_record l D cA s.heap.size (layM cA am S U) a G S hI hG y1 y2 y3 y4 r1 r2 r3 r4) gL_law_X5_record rfl (by decide +kernel) ⟨by decide, by decide⟩ rfl hl.1 rfl (Nat.le_of_ble_eq_true rfl) dL_law_1030 ⟨Nat.le_trans (Nat.add_le_add_left (by decide) _) hc, Nat.le_trans (Nat.add_le_add_left (by decide) _) hs⟩ X.1 cells slots ⟨rfl, rfl⟩ (fun v H locs hv hS1 => ?_)
  obtain ⟨rfl, a2, G2, ha2, hG2, hw⟩ := hv
  have X : zX D s.heap.size (zj (layC cA a2 G2 (fRecord S y1 y2 y3 y4).2) (layM cA am S U)) s.heap H locs := ⟨hw, hS1⟩
  refine lv_aload_n E.1 E.2.1 dL_law_1033 rfl (lv_at hl 2 rfl) ?_
  refine lv_aload_n E.1 E.2.1 dL_law_1034 rfl (lv_at hl 0 rfl) ?_
  refine lv_iload_n E.1 E.2.1 dL_law_1035 rfl (lv_at hl 3 rfl) ?_
  refine z_iconst E dL_law_1036 ?_
  refine z_iadd E dL_law_1037 ?_
  refine z_sld E X hX hbl (6 * n + 1) (by omega) (by omega) hN hy1 dL_law_1038 ?_
  refine lv_aload_n E.1 E.2.1 dL_law_1039 rfl (lv_at hl 0 rfl) ?_
  refine lv_iload_n E.1 E.2.1 dL_law_1040 rfl (lv_at hl 3 rfl) ?_
  refine z_iconst E dL_law_1041 ?_
  refine z_iadd E dL_law_1042 ?_
  refine z_sld E X hX hbl (6 * n + 2) (by omega) (by omega) hN hy2 dL_law_1043 ?_
  refine lv_aload_n E.1 E.2.1 dL_law_1044 rfl (lv_at hl 0 rfl) ?_
  refine lv_iload_n E.1 E.2.1 dL_law_1045 rfl (lv_at hl 3 rfl) ?_
  refine z_iconst E dL_law_1046 ?_
  refine z_iadd E dL_law_1047 ?_
  refine z_sld E X hX hbl (6 * n + 3) (by omega) (by omega) hN hy3 dL_law_1048 ?_
  refine lv_aload_n E.1 E.2.1 dL_law_1049 rfl (lv_at hl 0 rfl) ?_
  refine lv_iload_n E.1 E.2.1 dL_law_1050 rfl (lv_at hl 3 rfl) ?_
  refine z_iconst E dL_law_1051 ?_
  refine z_iadd E dL_law_1052 ?_
  refine z_sld E X hX hbl (6 * n + 4) (by omega) (by omega) hN hy4 dL_law_1053 ?_
  refine z_callV (As := [.int (i32 y1), .int (i32 y2), .int (i32 y3), .int (i32 y4)]) (rest := [.int (i32 (fRecord S y1 y2 y3 y4).1)]) (n := 4) E X (lM_0 (layC cA a2 G2 (fRecord S y1 y2 y3 y4).2) cA am S U) rfl (M_record l D cA s.heap.size (layC cA a2 G2 (fRecord S y1 y2 y3 y4).2) am S U hI hC y1 y2 y3 y4 r1 r2 r3 r4) gL_law_X6_record rfl (by decide +kernel) ⟨by decide, by decide⟩ rfl hl.1 rfl (Nat.le_of_ble_eq_true rfl) dL_law_1054 ⟨Nat.le_trans (by show cells + 0 ≤ cells + 2; omega) hc, Nat.le_trans (by show slots + 0 ≤ slots + 1586; omega) hs⟩ X.1 cells slots ⟨rfl, rfl⟩ (fun v H locs hv hS2 => ?_)
  obtain ⟨rfl, U2, hC2, hw⟩ := hv
  refine lv_icmp_eq (tgt := 1247) E.1 E.2.1 dL_law_1057 (by decide) (fun _ => ?_) (fun h => absurd rfl h)
  refine W.widen (k := cells + 2) (n := slots + 1586) (by omega) (by omega) ?_
  exact kk a2 am G2 (fRecord S y1 y2 y3 y4).2 U2 H locs ls ⟨hw, hS2⟩ (SI_fRecord hI) hG2 hC2 ha2 rfl hl
set_option maxHeartbeats 4000000 in
set_option maxRecDepth 100000 in
theorem lc_add {p : Program} {l : Launch} {e : Env} {s : State} {m : MethodId} {below : List Frame} {meth : Method} {c : Code} {D : va_G} {cA : Nat → ClassId} {b N : Nat} {xs : Nat → Int32} (E : zE p s m #[Value.ref b] meth c cL_law RL meth.name wsL_law 4 ret D cA) (hX : va_X b N xs s s.heap) (hbl : b < s.heap.size) (hN : N ≤ 3072) {n : Nat} (hn : 6 * n + 6 ≤ N) {q0 q1 : Nat} {a : Nat → Nat → Nat} {am : Nat → Nat} {G : zG} {S U : zS} {H : Heap} {locs : List Loc} {ls : Array Slot} (X : zX D s.heap.size (zj (layC cA a G S) (layM cA am S U)) s.heap H locs) (hI : SI S) (hG : CG S G) (hC : MC S U) (ha : a 0 0 = q0) (hm : am 0 = q1) (hl : lv_has ls 4 [(0, .ref b), (1, .ref q0), (2, .ref q1), (3, .int (i32 ((6 * n : Nat) : Int)))]) {cells slots : Nat} (hc : cells + 2 ≤ room_1.cells) (hs : slots + 1586 ≤ room_1.slots) {Q : State → Prop} (kk : ∀ (a : Nat → Nat → Nat) (am : Nat → Nat) (G : zG) (S U : zS) (H : Heap) (locs : List Loc) (ls : Array Slot), zX D s.heap.size (zj (layC cA a G S) (layM cA am S U)) s.heap H locs → SI S → CG S G → MC S U → a 0 0 = q0 → am 0 = q1 → lv_has ls 4 [(0, .ref b), (1, .ref q0), (2, .ref q1), (3, .int (i32 ((6 * n : Nat) : Int)))] → W p l e room_1 s m #[Value.ref b] below meth c H locs (cells + 2) (slots + 1586) Q (F0 m 1247 ls [])) : W p l e room_1 s m #[Value.ref b] below meth c H locs cells slots Q (F0 m 1062 ls []) := by
  subst ha
  subst hm
  obtain ⟨y1, hy1⟩ : ∃ y : Int, y = (xs (6 * n + 1)).toInt := ⟨_, rfl⟩
  have r1 : zr y1 := by rw [hy1]; exact i32_rng _
  obtain ⟨y2, hy2⟩ : ∃ y : Int, y = (xs (6 * n + 2)).toInt := ⟨_, rfl⟩
  have r2 : zr y2 := by rw [hy2]; exact i32_rng _
  obtain ⟨y3, hy3⟩ : ∃ y : Int, y = (xs (6 * n + 3)).toInt := ⟨_, rfl⟩
  have r3 : zr y3 := by rw [hy3]; exact i32_rng _
  refine lv_aload_n E.1 E.2.1 dL_law_1062 rfl (lv_at hl 1 rfl) ?_
  refine lv_aload_n E.1 E.2.1 dL_law_1063 rfl (lv_at hl 0 rfl) ?_
  refine lv_iload_n E.1 E.2.1 dL_law_1064 rfl (lv_at hl 3 rfl) ?_
  refine z_iconst E dL_law_1065 ?_
  refine z_iadd E dL_law_1066 ?_
  refine z_sld E X hX hbl (6 * n + 1) (by omega) (by omega) hN hy1 dL_law_1067 ?_
  refine lv_aload_n E.1 E.2.1 dL_law_1068 rfl (lv_at hl 0 rfl) ?_
  refine lv_iload_n E.1 E.2.1 dL_law_1069 rfl (lv_at hl 3 rfl) ?_
  refine z_iconst E dL_law_1070 ?_
  refine z_iadd E dL_law_1071 ?_
  refine z_sld E X hX hbl (6 * n + 2) (by omega) (by omega) hN hy2 dL_law_1072 ?_
  refine lv_aload_n E.1 E.2.1 dL_law_1073 rfl (lv_at hl 0 rfl) ?_
  refine lv_iload_n E.1 E.2.1 dL_law_1074 rfl (lv_at hl 3 rfl) ?_
  refine z_iconst E dL_law_1075 ?_
  refine z_iadd E dL_law_1076 ?_
  refine z_sld E X hX hbl (6 * n + 3) (by omega) (by omega) hN hy3 dL_law_1077 ?_
  refine z_callV (As := [.int (i32 y1), .int (i32 y2), .int (i32 y3)]) (rest := []) (n := 3) E X (lC_0 (layM cA am S U) cA a G S) rfl (X_add l D cA s.heap.size (layM cA am S U) a G S hI hG y1 y2 y3 r1 r2 r3) gL_law_X5_add rfl (by decide +kernel) ⟨by decide, by decide⟩ rfl hl.1 rfl (Nat.le_of_ble_eq_true rfl) dL_law_1078 ⟨Nat.le_trans (Nat.add_le_add_left (by decide) _) hc, Nat.le_trans (Nat.add_le_add_left (by decide) _) hs⟩ X.1 cells slots ⟨rfl, rfl⟩ (fun v H locs hv hS1 => ?_)
  obtain ⟨rfl, a2, G2, ha2, hG2, hw⟩ := hv
  have X : zX D s.heap.size (zj (layC cA a2 G2 (fAdd S y1 y2 y3).2) (layM cA am S U)) s.heap H locs := ⟨hw, hS1⟩
  refine lv_aload_n E.1 E.2.1 dL_law_1081 rfl (lv_at hl 2 rfl) ?_
  refine lv_aload_n E.1 E.2.1 dL_law_1082 rfl (lv_at hl 0 rfl) ?_
  refine lv_iload_n E.1 E.2.1 dL_law_1083 rfl (lv_at hl 3 rfl) ?_
  refine z_iconst E dL_law_1084 ?_
  refine z_iadd E dL_law_1085 ?_
  refine z_sld E X hX hbl (6 * n + 1) (by omega) (by omega) hN hy1 dL_law_1086 ?_
  refine lv_aload_n E.1 E.2.1 dL_law_1087 rfl (lv_at hl 0 rfl) ?_
  refine lv_iload_n E.1 E.2.1 dL_law_1088 rfl (lv_at hl 3 rfl) ?_
  refine z_iconst E dL_law_1089 ?_
  refine z_iadd E dL_law_1090 ?_
  refine z_sld E X hX hbl (6 * n + 2) (by omega) (by omega) hN hy2 dL_law_1091 ?_
  refine lv_aload_n E.1 E.2.1 dL_law_1092 rfl (lv_at hl 0 rfl) ?_
  refine lv_iload_n E.1 E.2.1 dL_law_1093 rfl (lv_at hl 3 rfl) ?_
  refine z_iconst E dL_law_1094 ?_
  refine z_iadd E dL_law_1095 ?_
  refine z_sld E X hX hbl (6 * n + 3) (by omega) (by omega) hN hy3 dL_law_1096 ?_
  refine z_callV (As := [.int (i32 y1), .int (i32 y2), .int (i32 y3)]) (rest := [.int (i32 (fAdd S y1 y2 y3).1)]) (n := 3) E X (lM_0 (layC cA a2 G2 (fAdd S y1 y2 y3).2) cA am S U) rfl (M_add l D cA s.heap.size (layC cA a2 G2 (fAdd S y1 y2 y3).2) am S U hI hC y1 y2 y3 r1 r2 r3) gL_law_X6_add rfl (by decide +kernel) ⟨by decide, by decide⟩ rfl hl.1 rfl (Nat.le_of_ble_eq_true rfl) dL_law_1097 ⟨Nat.le_trans (by show cells + 0 ≤ cells + 2; omega) hc, Nat.le_trans (by show slots + 0 ≤ slots + 1586; omega) hs⟩ X.1 cells slots ⟨rfl, rfl⟩ (fun v H locs hv hS2 => ?_)
  obtain ⟨rfl, U2, hC2, hw⟩ := hv
  refine lv_icmp_eq (tgt := 1247) E.1 E.2.1 dL_law_1100 (by decide) (fun _ => ?_) (fun h => absurd rfl h)
  refine W.widen (k := cells + 2) (n := slots + 1586) (by omega) (by omega) ?_
  exact kk a2 am G2 (fAdd S y1 y2 y3).2 U2 H locs ls ⟨hw, hS2⟩ (SI_fAdd hI) hG2 hC2 ha2 rfl hl
set_option maxHeartbeats 4000000 in
set_option maxRecDepth 100000 in
theorem lc_copy {p : Program} {l : Launch} {e : Env} {s : State} {m : MethodId} {below : List Frame} {meth : Method} {c : Code} {D : va_G} {cA : Nat → ClassId} {b N : Nat} {xs : Nat → Int32} (E : zE p s m #[Value.ref b] meth c cL_law RL meth.name wsL_law 4 ret D cA) (hX : va_X b N xs s s.heap) (hbl : b < s.heap.size) (hN : N ≤ 3072) {n : Nat} (hn : 6 * n + 6 ≤ N) {q0 q1 : Nat} {a : Nat → Nat → Nat} {am : Nat → Nat} {G : zG} {S U : zS} {H : Heap} {locs : List Loc} {ls : Array Slot} (X : zX D s.heap.size (zj (layC cA a G S) (layM cA am S U)) s.heap H locs) (hI : SI S) (hG : CG S G) (hC : MC S U) (ha : a 0 0 = q0) (hm : am 0 = q1) (hl : lv_has ls 4 [(0, .ref b), (1, .ref q0), (2, .ref q1), (3, .int (i32 ((6 * n : Nat) : Int)))]) {cells slots : Nat} (hc : cells + 2 ≤ room_1.cells) (hs : slots + 1586 ≤ room_1.slots) {Q : State → Prop} (kk : ∀ (a : Nat → Nat → Nat) (am : Nat → Nat) (G : zG) (S U : zS) (H : Heap) (locs : List Loc) (ls : Array Slot), zX D s.heap.size (zj (layC cA a G S) (layM cA am S U)) s.heap H locs → SI S → CG S G → MC S U → a 0 0 = q0 → am 0 = q1 → lv_has ls 4 [(0, .ref b), (1, .ref q0), (2, .ref q1), (3, .int (i32 ((6 * n : Nat) : Int)))] → W p l e room_1 s m #[Value.ref b] below meth c H locs (cells + 2) (slots + 1586) Q (F0 m 1247 ls [])) : W p l e room_1 s m #[Value.ref b] below meth c H locs cells slots Q (F0 m 1105 ls []) := by
  subst ha
  subst hm
  obtain ⟨y1, hy1⟩ : ∃ y : Int, y = (xs (6 * n + 1)).toInt := ⟨_, rfl⟩
  have r1 : zr y1 := by rw [hy1]; exact i32_rng _
  obtain ⟨y2, hy2⟩ : ∃ y : Int, y = (xs (6 * n + 2)).toInt := ⟨_, rfl⟩
  have r2 : zr y2 := by rw [hy2]; exact i32_rng _
  obtain ⟨y3, hy3⟩ : ∃ y : Int, y = (xs (6 * n + 3)).toInt := ⟨_, rfl⟩
  have r3 : zr y3 := by rw [hy3]; exact i32_rng _
  obtain ⟨y4, hy4⟩ : ∃ y : Int, y = (xs (6 * n + 4)).toInt := ⟨_, rfl⟩
  have r4 : zr y4 := by rw [hy4]; exact i32_rng _
  obtain ⟨y5, hy5⟩ : ∃ y : Int, y = (xs (6 * n + 5)).toInt := ⟨_, rfl⟩
  have r5 : zr y5 := by rw [hy5]; exact i32_rng _
  refine lv_aload_n E.1 E.2.1 dL_law_1105 rfl (lv_at hl 1 rfl) ?_
  refine lv_aload_n E.1 E.2.1 dL_law_1106 rfl (lv_at hl 0 rfl) ?_
  refine lv_iload_n E.1 E.2.1 dL_law_1107 rfl (lv_at hl 3 rfl) ?_
  refine z_iconst E dL_law_1108 ?_
  refine z_iadd E dL_law_1109 ?_
  refine z_sld E X hX hbl (6 * n + 1) (by omega) (by omega) hN hy1 dL_law_1110 ?_
  refine lv_aload_n E.1 E.2.1 dL_law_1111 rfl (lv_at hl 0 rfl) ?_
  refine lv_iload_n E.1 E.2.1 dL_law_1112 rfl (lv_at hl 3 rfl) ?_
  refine z_iconst E dL_law_1113 ?_
  refine z_iadd E dL_law_1114 ?_
  refine z_sld E X hX hbl (6 * n + 2) (by omega) (by omega) hN hy2 dL_law_1115 ?_
  refine lv_aload_n E.1 E.2.1 dL_law_1116 rfl (lv_at hl 0 rfl) ?_
  refine lv_iload_n E.1 E.2.1 dL_law_1117 rfl (lv_at hl 3 rfl) ?_
  refine z_iconst E dL_law_1118 ?_
  refine z_iadd E dL_law_1119 ?_
  refine z_sld E X hX hbl (6 * n + 3) (by omega) (by omega) hN hy3 dL_law_1120 ?_
  refine lv_aload_n E.1 E.2.1 dL_law_1121 rfl (lv_at hl 0 rfl) ?_
  refine lv_iload_n E.1 E.2.1 dL_law_1122 rfl (lv_at hl 3 rfl) ?_
  refine z_iconst E dL_law_1123 ?_
  refine z_iadd E dL_law_1124 ?_
  refine z_sld E X hX hbl (6 * n + 4) (by omega) (by omega) hN hy4 dL_law_1125 ?_
  refine lv_aload_n E.1 E.2.1 dL_law_1126 rfl (lv_at hl 0 rfl) ?_
  refine lv_iload_n E.1 E.2.1 dL_law_1127 rfl (lv_at hl 3 rfl) ?_
  refine z_iconst E dL_law_1128 ?_
  refine z_iadd E dL_law_1129 ?_
  refine z_sld E X hX hbl (6 * n + 5) (by omega) (by omega) hN hy5 dL_law_1130 ?_
  refine z_callV (As := [.int (i32 y1), .int (i32 y2), .int (i32 y3), .int (i32 y4), .int (i32 y5)]) (rest := []) (n := 5) E X (lC_0 (layM cA am S U) cA a G S) rfl (X_copy l D cA s.heap.size (layM cA am S U) a G S hI hG y1 y2 y3 y4 y5 r1 r2 r3 r4 r5) gL_law_X5_copy rfl (by decide +kernel) ⟨by decide, by decide⟩ rfl hl.1 rfl (Nat.le_of_ble_eq_true rfl) dL_law_1131 ⟨Nat.le_trans (Nat.add_le_add_left (by decide) _) hc, Nat.le_trans (Nat.add_le_add_left (by decide) _) hs⟩ X.1 cells slots ⟨rfl, rfl⟩ (fun v H locs hv hS1 => ?_)
  obtain ⟨rfl, a2, G2, ha2, hG2, hw⟩ := hv
  have X : zX D s.heap.size (zj (layC cA a2 G2 (fCopy S y1 y2 y3 y4 y5).2) (layM cA am S U)) s.heap H locs := ⟨hw, hS1⟩
  refine lv_aload_n E.1 E.2.1 dL_law_1134 rfl (lv_at hl 2 rfl) ?_
  refine lv_aload_n E.1 E.2.1 dL_law_1135 rfl (lv_at hl 0 rfl) ?_
  refine lv_iload_n E.1 E.2.1 dL_law_1136 rfl (lv_at hl 3 rfl) ?_
  refine z_iconst E dL_law_1137 ?_
  refine z_iadd E dL_law_1138 ?_
  refine z_sld E X hX hbl (6 * n + 1) (by omega) (by omega) hN hy1 dL_law_1139 ?_
  refine lv_aload_n E.1 E.2.1 dL_law_1140 rfl (lv_at hl 0 rfl) ?_
  refine lv_iload_n E.1 E.2.1 dL_law_1141 rfl (lv_at hl 3 rfl) ?_
  refine z_iconst E dL_law_1142 ?_
  refine z_iadd E dL_law_1143 ?_
  refine z_sld E X hX hbl (6 * n + 2) (by omega) (by omega) hN hy2 dL_law_1144 ?_
  refine lv_aload_n E.1 E.2.1 dL_law_1145 rfl (lv_at hl 0 rfl) ?_
  refine lv_iload_n E.1 E.2.1 dL_law_1146 rfl (lv_at hl 3 rfl) ?_
  refine z_iconst E dL_law_1147 ?_
  refine z_iadd E dL_law_1148 ?_
  refine z_sld E X hX hbl (6 * n + 3) (by omega) (by omega) hN hy3 dL_law_1149 ?_
  refine lv_aload_n E.1 E.2.1 dL_law_1150 rfl (lv_at hl 0 rfl) ?_
  refine lv_iload_n E.1 E.2.1 dL_law_1151 rfl (lv_at hl 3 rfl) ?_
  refine z_iconst E dL_law_1152 ?_
  refine z_iadd E dL_law_1153 ?_
  refine z_sld E X hX hbl (6 * n + 4) (by omega) (by omega) hN hy4 dL_law_1154 ?_
  refine lv_aload_n E.1 E.2.1 dL_law_1155 rfl (lv_at hl 0 rfl) ?_
  refine lv_iload_n E.1 E.2.1 dL_law_1156 rfl (lv_at hl 3 rfl) ?_
  refine z_iconst E dL_law_1157 ?_
  refine z_iadd E dL_law_1158 ?_
  refine z_sld E X hX hbl (6 * n + 5) (by omega) (by omega) hN hy5 dL_law_1159 ?_
  refine z_callV (As := [.int (i32 y1), .int (i32 y2), .int (i32 y3), .int (i32 y4), .int (i32 y5)]) (rest := [.int (i32 (fCopy S y1 y2 y3 y4 y5).1)]) (n := 5) E X (lM_0 (layC cA a2 G2 (fCopy S y1 y2 y3 y4 y5).2) cA am S U) rfl (M_copy l D cA s.heap.size (layC cA a2 G2 (fCopy S y1 y2 y3 y4 y5).2) am S U hI hC y1 y2 y3 y4 y5 r1 r2 r3 r4 r5) gL_law_X6_copy rfl (by decide +kernel) ⟨by decide, by decide⟩ rfl hl.1 rfl (Nat.le_of_ble_eq_true rfl) dL_law_1160 ⟨Nat.le_trans (by show cells + 0 ≤ cells + 2; omega) hc, Nat.le_trans (by show slots + 0 ≤ slots + 1586; omega) hs⟩ X.1 cells slots ⟨rfl, rfl⟩ (fun v H locs hv hS2 => ?_)
  obtain ⟨rfl, U2, hC2, hw⟩ := hv
  refine lv_icmp_eq (tgt := 1247) E.1 E.2.1 dL_law_1163 (by decide) (fun _ => ?_) (fun h => absurd rfl h)
  refine W.widen (k := cells + 2) (n := slots + 1586) (by omega) (by omega) ?_
  exact kk a2 am G2 (fCopy S y1 y2 y3 y4 y5).2 U2 H locs ls ⟨hw, hS2⟩ (SI_fCopy hI) hG2 hC2 ha2 rfl hl
set_option maxHeartbeats 4000000 in
set_option maxRecDepth 100000 in
theorem lc_at {p : Program} {l : Launch} {e : Env} {s : State} {m : MethodId} {below : List Frame} {meth : Method} {c : Code} {D : va_G} {cA : Nat → ClassId} {b N : Nat} {xs : Nat → Int32} (E : zE p s m #[Value.ref b] meth c cL_law RL meth.name wsL_law 4 ret D cA) (hX : va_X b N xs s s.heap) (hbl : b < s.heap.size) (hN : N ≤ 3072) {n : Nat} (hn : 6 * n + 6 ≤ N) {q0 q1 : Nat} {a : Nat → Nat → Nat} {am : Nat → Nat} {G : zG} {S U : zS} {H : Heap} {locs : List Loc} {ls : Array Slot} (X : zX D s.heap.size (zj (layC cA a G S) (layM cA am S U)) s.heap H locs) (hI : SI S) (hG : CG S G) (hC : MC S U) (ha : a 0 0 = q0) (hm : am 0 = q1) (hl : lv_has ls 4 [(0, .ref b), (1, .ref q0), (2, .ref q1), (3, .int (i32 ((6 * n : Nat) : Int)))]) {cells slots : Nat} (hc : cells + 2 ≤ room_1.cells) (hs : slots + 1586 ≤ room_1.slots) {Q : State → Prop} (kk : ∀ (a : Nat → Nat → Nat) (am : Nat → Nat) (G : zG) (S U : zS) (H : Heap) (locs : List Loc) (ls : Array Slot), zX D s.heap.size (zj (layC cA a G S) (layM cA am S U)) s.heap H locs → SI S → CG S G → MC S U → a 0 0 = q0 → am 0 = q1 → lv_has ls 4 [(0, .ref b), (1, .ref q0), (2, .ref q1), (3, .int (i32 ((6 * n : Nat) : Int)))] → W p l e room_1 s m #[Value.ref b] below meth c H locs (cells + 2) (slots + 1586) Q (F0 m 1247 ls [])) : W p l e room_1 s m #[Value.ref b] below meth c H locs cells slots Q (F0 m 1168 ls []) := by
  subst ha
  subst hm
  obtain ⟨y1, hy1⟩ : ∃ y : Int, y = (xs (6 * n + 1)).toInt := ⟨_, rfl⟩
  have r1 : zr y1 := by rw [hy1]; exact i32_rng _
  obtain ⟨y2, hy2⟩ : ∃ y : Int, y = (xs (6 * n + 2)).toInt := ⟨_, rfl⟩
  have r2 : zr y2 := by rw [hy2]; exact i32_rng _
  refine lv_aload_n E.1 E.2.1 dL_law_1168 rfl (lv_at hl 1 rfl) ?_
  refine lv_aload_n E.1 E.2.1 dL_law_1169 rfl (lv_at hl 0 rfl) ?_
  refine lv_iload_n E.1 E.2.1 dL_law_1170 rfl (lv_at hl 3 rfl) ?_
  refine z_iconst E dL_law_1171 ?_
  refine z_iadd E dL_law_1172 ?_
  refine z_sld E X hX hbl (6 * n + 1) (by omega) (by omega) hN hy1 dL_law_1173 ?_
  refine lv_aload_n E.1 E.2.1 dL_law_1174 rfl (lv_at hl 0 rfl) ?_
  refine lv_iload_n E.1 E.2.1 dL_law_1175 rfl (lv_at hl 3 rfl) ?_
  refine z_iconst E dL_law_1176 ?_
  refine z_iadd E dL_law_1177 ?_
  refine z_sld E X hX hbl (6 * n + 2) (by omega) (by omega) hN hy2 dL_law_1178 ?_
  refine z_callV (As := [.int (i32 y1), .int (i32 y2)]) (rest := []) (n := 2) E X (lC_0 (layM cA am S U) cA a G S) rfl (X_at l D cA s.heap.size (layM cA am S U) a G S hI hG y1 y2 r1 r2) gL_law_X5_at rfl (by decide +kernel) ⟨by decide, by decide⟩ rfl hl.1 rfl (Nat.le_of_ble_eq_true rfl) dL_law_1179 ⟨Nat.le_trans (Nat.add_le_add_left (by decide) _) hc, Nat.le_trans (Nat.add_le_add_left (by decide) _) hs⟩ X.1 cells slots ⟨rfl, rfl⟩ (fun v H locs hv hS1 => ?_)
  obtain ⟨rfl, a2, G2, ha2, hG2, hw⟩ := hv
  have X : zX D s.heap.size (zj (layC cA a2 G2 (fAt S y1 y2).2) (layM cA am S U)) s.heap H locs := ⟨hw, hS1⟩
  refine lv_aload_n E.1 E.2.1 dL_law_1182 rfl (lv_at hl 2 rfl) ?_
  refine lv_aload_n E.1 E.2.1 dL_law_1183 rfl (lv_at hl 0 rfl) ?_
  refine lv_iload_n E.1 E.2.1 dL_law_1184 rfl (lv_at hl 3 rfl) ?_
  refine z_iconst E dL_law_1185 ?_
  refine z_iadd E dL_law_1186 ?_
  refine z_sld E X hX hbl (6 * n + 1) (by omega) (by omega) hN hy1 dL_law_1187 ?_
  refine lv_aload_n E.1 E.2.1 dL_law_1188 rfl (lv_at hl 0 rfl) ?_
  refine lv_iload_n E.1 E.2.1 dL_law_1189 rfl (lv_at hl 3 rfl) ?_
  refine z_iconst E dL_law_1190 ?_
  refine z_iadd E dL_law_1191 ?_
  refine z_sld E X hX hbl (6 * n + 2) (by omega) (by omega) hN hy2 dL_law_1192 ?_
  refine z_callV (As := [.int (i32 y1), .int (i32 y2)]) (rest := [.int (i32 (fAt S y1 y2).1)]) (n := 2) E X (lM_0 (layC cA a2 G2 (fAt S y1 y2).2) cA am S U) rfl (M_at l D cA s.heap.size (layC cA a2 G2 (fAt S y1 y2).2) am S U hI hC y1 y2 r1 r2) gL_law_X6_at rfl (by decide +kernel) ⟨by decide, by decide⟩ rfl hl.1 rfl (Nat.le_of_ble_eq_true rfl) dL_law_1193 ⟨Nat.le_trans (by show cells + 0 ≤ cells + 2; omega) hc, Nat.le_trans (by show slots + 0 ≤ slots + 1586; omega) hs⟩ X.1 cells slots ⟨rfl, rfl⟩ (fun v H locs hv hS2 => ?_)
  obtain ⟨rfl, U2, hC2, hw⟩ := hv
  refine lv_icmp_eq (tgt := 1247) E.1 E.2.1 dL_law_1196 (by decide) (fun _ => ?_) (fun h => absurd rfl h)
  refine W.widen (k := cells + 2) (n := slots + 1586) (by omega) (by omega) ?_
  exact kk a2 am G2 (fAt S y1 y2).2 U2 H locs ls ⟨hw, hS2⟩ (SI_fAt hI) hG2 hC2 ha2 rfl hl
set_option maxHeartbeats 4000000 in
set_option maxRecDepth 100000 in
theorem lc_peak {p : Program} {l : Launch} {e : Env} {s : State} {m : MethodId} {below : List Frame} {meth : Method} {c : Code} {D : va_G} {cA : Nat → ClassId} {b N : Nat} {xs : Nat → Int32} (E : zE p s m #[Value.ref b] meth c cL_law RL meth.name wsL_law 4 ret D cA) (hX : va_X b N xs s s.heap) (hbl : b < s.heap.size) (hN : N ≤ 3072) {n : Nat} (hn : 6 * n + 6 ≤ N) {q0 q1 : Nat} {a : Nat → Nat → Nat} {am : Nat → Nat} {G : zG} {S U : zS} {H : Heap} {locs : List Loc} {ls : Array Slot} (X : zX D s.heap.size (zj (layC cA a G S) (layM cA am S U)) s.heap H locs) (hI : SI S) (hG : CG S G) (hC : MC S U) (ha : a 0 0 = q0) (hm : am 0 = q1) (hl : lv_has ls 4 [(0, .ref b), (1, .ref q0), (2, .ref q1), (3, .int (i32 ((6 * n : Nat) : Int)))]) {cells slots : Nat} (hc : cells + 2 ≤ room_1.cells) (hs : slots + 1586 ≤ room_1.slots) {Q : State → Prop} (kk : ∀ (a : Nat → Nat → Nat) (am : Nat → Nat) (G : zG) (S U : zS) (H : Heap) (locs : List Loc) (ls : Array Slot), zX D s.heap.size (zj (layC cA a G S) (layM cA am S U)) s.heap H locs → SI S → CG S G → MC S U → a 0 0 = q0 → am 0 = q1 → lv_has ls 4 [(0, .ref b), (1, .ref q0), (2, .ref q1), (3, .int (i32 ((6 * n : Nat) : Int)))] → W p l e room_1 s m #[Value.ref b] below meth c H locs (cells + 2) (slots + 1586) Q (F0 m 1247 ls [])) : W p l e room_1 s m #[Value.ref b] below meth c H locs cells slots Q (F0 m 1201 ls []) := by
  subst ha
  subst hm
  obtain ⟨y1, hy1⟩ : ∃ y : Int, y = (xs (6 * n + 1)).toInt := ⟨_, rfl⟩
  have r1 : zr y1 := by rw [hy1]; exact i32_rng _
  refine lv_aload_n E.1 E.2.1 dL_law_1201 rfl (lv_at hl 1 rfl) ?_
  refine lv_aload_n E.1 E.2.1 dL_law_1202 rfl (lv_at hl 0 rfl) ?_
  refine lv_iload_n E.1 E.2.1 dL_law_1203 rfl (lv_at hl 3 rfl) ?_
  refine z_iconst E dL_law_1204 ?_
  refine z_iadd E dL_law_1205 ?_
  refine z_sld E X hX hbl (6 * n + 1) (by omega) (by omega) hN hy1 dL_law_1206 ?_
  refine z_callV (As := [.int (i32 y1)]) (rest := []) (n := 1) E X (lC_0 (layM cA am S U) cA a G S) rfl (X_peak l D cA s.heap.size (layM cA am S U) a G S hI hG y1 r1) gL_law_X5_peak rfl (by decide +kernel) ⟨by decide, by decide⟩ rfl hl.1 rfl (Nat.le_of_ble_eq_true rfl) dL_law_1207 ⟨Nat.le_trans (Nat.add_le_add_left (by decide) _) hc, Nat.le_trans (Nat.add_le_add_left (by decide) _) hs⟩ X.1 cells slots ⟨rfl, rfl⟩ (fun v H locs hv hS1 => ?_)
  obtain ⟨rfl, a2, G2, ha2, hG2, hw⟩ := hv
  have X : zX D s.heap.size (zj (layC cA a2 G2 (fPeak S y1).2) (layM cA am S U)) s.heap H locs := ⟨hw, hS1⟩
  refine lv_aload_n E.1 E.2.1 dL_law_1210 rfl (lv_at hl 2 rfl) ?_
  refine lv_aload_n E.1 E.2.1 dL_law_1211 rfl (lv_at hl 0 rfl) ?_
  refine lv_iload_n E.1 E.2.1 dL_law_1212 rfl (lv_at hl 3 rfl) ?_
  refine z_iconst E dL_law_1213 ?_
  refine z_iadd E dL_law_1214 ?_
  refine z_sld E X hX hbl (6 * n + 1) (by omega) (by omega) hN hy1 dL_law_1215 ?_
  refine z_callV (As := [.int (i32 y1)]) (rest := [.int (i32 (fPeak S y1).1)]) (n := 1) E X (lM_0 (layC cA a2 G2 (fPeak S y1).2) cA am S U) rfl (M_peak l D cA s.heap.size (layC cA a2 G2 (fPeak S y1).2) am S U hI hC y1 r1) gL_law_X6_peak rfl (by decide +kernel) ⟨by decide, by decide⟩ rfl hl.1 rfl (Nat.le_of_ble_eq_true rfl) dL_law_1216 ⟨Nat.le_trans (by show cells + 0 ≤ cells + 2; omega) hc, Nat.le_trans (by show slots + 0 ≤ slots + 1586; omega) hs⟩ X.1 cells slots ⟨rfl, rfl⟩ (fun v H locs hv hS2 => ?_)
  obtain ⟨rfl, U2, hC2, hw⟩ := hv
  refine lv_icmp_eq (tgt := 1247) E.1 E.2.1 dL_law_1219 (by decide) (fun _ => ?_) (fun h => absurd rfl h)
  refine W.widen (k := cells + 2) (n := slots + 1586) (by omega) (by omega) ?_
  exact kk a2 am G2 (fPeak S y1).2 U2 H locs ls ⟨hw, hS2⟩ (SI_fPeak hI) hG2 hC2 ha2 rfl hl
set_option maxHeartbeats 4000000 in
set_option maxRecDepth 100000 in
theorem lc_total {p : Program} {l : Launch} {e : Env} {s : State} {m : MethodId} {below : List Frame} {meth : Method} {c : Code} {D : va_G} {cA : Nat → ClassId} {b N : Nat} {xs : Nat → Int32} (E : zE p s m #[Value.ref b] meth c cL_law RL meth.name wsL_law 4 ret D cA) (hX : va_X b N xs s s.heap) (hbl : b < s.heap.size) (hN : N ≤ 3072) {n : Nat} (hn : 6 * n + 6 ≤ N) {q0 q1 : Nat} {a : Nat → Nat → Nat} {am : Nat → Nat} {G : zG} {S U : zS} {H : Heap} {locs : List Loc} {ls : Array Slot} (X : zX D s.heap.size (zj (layC cA a G S) (layM cA am S U)) s.heap H locs) (hI : SI S) (hG : CG S G) (hC : MC S U) (ha : a 0 0 = q0) (hm : am 0 = q1) (hl : lv_has ls 4 [(0, .ref b), (1, .ref q0), (2, .ref q1), (3, .int (i32 ((6 * n : Nat) : Int)))]) {cells slots : Nat} (hc : cells + 2 ≤ room_1.cells) (hs : slots + 1586 ≤ room_1.slots) {Q : State → Prop} (kk : ∀ (a : Nat → Nat → Nat) (am : Nat → Nat) (G : zG) (S U : zS) (H : Heap) (locs : List Loc) (ls : Array Slot), zX D s.heap.size (zj (layC cA a G S) (layM cA am S U)) s.heap H locs → SI S → CG S G → MC S U → a 0 0 = q0 → am 0 = q1 → lv_has ls 4 [(0, .ref b), (1, .ref q0), (2, .ref q1), (3, .int (i32 ((6 * n : Nat) : Int)))] → W p l e room_1 s m #[Value.ref b] below meth c H locs (cells + 2) (slots + 1586) Q (F0 m 1247 ls [])) : W p l e room_1 s m #[Value.ref b] below meth c H locs cells slots Q (F0 m 1224 ls []) := by
  subst ha
  subst hm
  obtain ⟨y1, hy1⟩ : ∃ y : Int, y = (xs (6 * n + 1)).toInt := ⟨_, rfl⟩
  have r1 : zr y1 := by rw [hy1]; exact i32_rng _
  refine lv_aload_n E.1 E.2.1 dL_law_1224 rfl (lv_at hl 1 rfl) ?_
  refine lv_aload_n E.1 E.2.1 dL_law_1225 rfl (lv_at hl 0 rfl) ?_
  refine lv_iload_n E.1 E.2.1 dL_law_1226 rfl (lv_at hl 3 rfl) ?_
  refine z_iconst E dL_law_1227 ?_
  refine z_iadd E dL_law_1228 ?_
  refine z_sld E X hX hbl (6 * n + 1) (by omega) (by omega) hN hy1 dL_law_1229 ?_
  refine z_callV (As := [.int (i32 y1)]) (rest := []) (n := 1) E X (lC_0 (layM cA am S U) cA a G S) rfl (X_total l D cA s.heap.size (layM cA am S U) a G S hI hG y1 r1) gL_law_X5_total rfl (by decide +kernel) ⟨by decide, by decide⟩ rfl hl.1 rfl (Nat.le_of_ble_eq_true rfl) dL_law_1230 ⟨Nat.le_trans (Nat.add_le_add_left (by decide) _) hc, Nat.le_trans (Nat.add_le_add_left (by decide) _) hs⟩ X.1 cells slots ⟨rfl, rfl⟩ (fun v H locs hv hS1 => ?_)
  obtain ⟨rfl, a2, G2, ha2, hG2, hw⟩ := hv
  have X : zX D s.heap.size (zj (layC cA a2 G2 (fTotal S y1).2) (layM cA am S U)) s.heap H locs := ⟨hw, hS1⟩
  refine lv_aload_n E.1 E.2.1 dL_law_1233 rfl (lv_at hl 2 rfl) ?_
  refine lv_aload_n E.1 E.2.1 dL_law_1234 rfl (lv_at hl 0 rfl) ?_
  refine lv_iload_n E.1 E.2.1 dL_law_1235 rfl (lv_at hl 3 rfl) ?_
  refine z_iconst E dL_law_1236 ?_
  refine z_iadd E dL_law_1237 ?_
  refine z_sld E X hX hbl (6 * n + 1) (by omega) (by omega) hN hy1 dL_law_1238 ?_
  refine z_callV (As := [.int (i32 y1)]) (rest := [.int (i32 (fTotal S y1).1)]) (n := 1) E X (lM_0 (layC cA a2 G2 (fTotal S y1).2) cA am S U) rfl (M_total l D cA s.heap.size (layC cA a2 G2 (fTotal S y1).2) am S U hI hC y1 r1) gL_law_X6_total rfl (by decide +kernel) ⟨by decide, by decide⟩ rfl hl.1 rfl (Nat.le_of_ble_eq_true rfl) dL_law_1239 ⟨Nat.le_trans (by show cells + 0 ≤ cells + 2; omega) hc, Nat.le_trans (by show slots + 0 ≤ slots + 1586; omega) hs⟩ X.1 cells slots ⟨rfl, rfl⟩ (fun v H locs hv hS2 => ?_)
  obtain ⟨rfl, U2, hC2, hw⟩ := hv
  refine lv_icmp_eq (tgt := 1247) E.1 E.2.1 dL_law_1242 (by decide) (fun _ => ?_) (fun h => absurd rfl h)
  refine W.widen (k := cells + 2) (n := slots + 1586) (by omega) (by omega) ?_
  exact kk a2 am G2 (fTotal S y1).2 U2 H locs ls ⟨hw, hS2⟩ (SI_fTotal hI) hG2 hC2 ha2 rfl hl
