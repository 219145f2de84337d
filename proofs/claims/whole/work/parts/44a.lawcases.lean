set_option maxHeartbeats 4000000 in
set_option maxRecDepth 100000 in
theorem lc_body {p : Program} {l : Launch} {e : Env} {s : State} {m : MethodId} {below : List Frame} {meth : Method} {c : Code} {D : va_G} {cA : Nat → ClassId} {b N : Nat} {xs : Nat → Int32} (E : zE p s m #[Value.ref b] meth c cL_law RL meth.name wsL_law 4 ret D cA) (hX : va_X b N xs s s.heap) (hbl : b < s.heap.size) (hN : N ≤ 3072) {n : Nat} (hn : 6 * n + 6 ≤ N) {q0 q1 : Nat} {a : Nat → Nat → Nat} {am : Nat → Nat} {G : zG} {S U : zS} {H : Heap} {locs : List Loc} {ls : Array Slot} (X : zX D s.heap.size (zj (layC cA a G S) (layM cA am S U)) s.heap H locs) (hI : SI S) (hG : CG S G) (hC : MC S U) (ha : a 0 0 = q0) (hm : am 0 = q1) (hl : lv_has ls 4 [(0, .ref b), (1, .ref q0), (2, .ref q1), (3, .int (i32 ((6 * n : Nat) : Int)))]) {cells slots : Nat} (hc : cells + 2 ≤ room_1.cells) (hs : slots + 1586 ≤ room_1.slots) {Q : State → Prop} (kk : ∀ (a : Nat → Nat → Nat) (am : Nat → Nat) (G : zG) (S U : zS) (H : Heap) (locs : List Loc) (ls : Array Slot), zX D s.heap.size (zj (layC cA a G S) (layM cA am S U)) s.heap H locs → SI S → CG S G → MC S U → a 0 0 = q0 → am 0 = q1 → lv_has ls 4 [(0, .ref b), (1, .ref q0), (2, .ref q1), (3, .int (i32 ((6 * n : Nat) : Int)))] → W p l e room_1 s m #[Value.ref b] below meth c H locs (cells + 2) (slots + 1586) Q (F0 m 1247 ls [])) : W p l e room_1 s m #[Value.ref b] below meth c H locs cells slots Q (F0 m 164 ls []) := by
  subst ha
  subst hm
  obtain ⟨y1, hy1⟩ : ∃ y : Int, y = (xs (6 * n + 1)).toInt := ⟨_, rfl⟩
  have r1 : zr y1 := by rw [hy1]; exact i32_rng _
  obtain ⟨y2, hy2⟩ : ∃ y : Int, y = (xs (6 * n + 2)).toInt := ⟨_, rfl⟩
  have r2 : zr y2 := by rw [hy2]; exact i32_rng _
  obtain ⟨y3, hy3⟩ : ∃ y : Int, y = (xs (6 * n + 3)).toInt := ⟨_, rfl⟩
  have r3 : zr y3 := by rw [hy3]; exact i32_rng _
  obtain ⟨y4, hy4⟩ : ∃ y : Int, y = (xs (6 * n + 4)).toInt := ⟨_, rfl⟩
  have r4 : zr y4 := by rw [hy4]; exact i32_rng _
  refine lv_aload_n E.1 E.2.1 dL_law_164 rfl (lv_at hl 1 rfl) ?_
  refine lv_aload_n E.1 E.2.1 dL_law_165 rfl (lv_at hl 0 rfl) ?_
  refine lv_iload_n E.1 E.2.1 dL_law_166 rfl (lv_at hl 3 rfl) ?_
  refine z_iconst E dL_law_167 ?_
  refine z_iadd E dL_law_168 ?_
  refine z_sld E X hX hbl (6 * n + 1) (by omega) (by omega) hN hy1 dL_law_169 ?_
  refine lv_aload_n E.1 E.2.1 dL_law_170 rfl (lv_at hl 0 rfl) ?_
  refine lv_iload_n E.1 E.2.1 dL_law_171 rfl (lv_at hl 3 rfl) ?_
  refine z_iconst E dL_law_172 ?_
  refine z_iadd E dL_law_173 ?_
  refine z_sld E X hX hbl (6 * n + 2) (by omega) (by omega) hN hy2 dL_law_174 ?_
  refine lv_aload_n E.1 E.2.1 dL_law_175 rfl (lv_at hl 0 rfl) ?_
  refine lv_iload_n E.1 E.2.1 dL_law_176 rfl (lv_at hl 3 rfl) ?_
  refine z_iconst E dL_law_177 ?_
  refine z_iadd E dL_law_178 ?_
  refine z_sld E X hX hbl (6 * n + 3) (by omega) (by omega) hN hy3 dL_law_179 ?_
  refine lv_aload_n E.1 E.2.1 dL_law_180 rfl (lv_at hl 0 rfl) ?_
  refine lv_iload_n E.1 E.2.1 dL_law_181 rfl (lv_at hl 3 rfl) ?_
  refine z_iconst E dL_law_182 ?_
  refine z_iadd E dL_law_183 ?_
  refine z_sld E X hX hbl (6 * n + 4) (by omega) (by omega) hN hy4 dL_law_184 ?_
  refine z_callV (As := [.int (i32 y1), .int (i32 y2), .int (i32 y3), .int (i32 y4)]) (rest := []) (n := 4) E X (lC_0 (layM cA am S U) cA a G S) rfl (X_body l D cA s.heap.size (layM cA am S U) a G S hI hG y1 y2 y3 y4 r1 r2 r3 r4) gL_law_X5_body rfl (by decide +kernel) ⟨by decide, by decide⟩ rfl hl.1 rfl (Nat.le_of_ble_eq_true rfl) dL_law_185 ⟨Nat.le_trans (Nat.add_le_add_left (by decide) _) hc, Nat.le_trans (Nat.add_le_add_left (by decide) _) hs⟩ X.1 cells slots ⟨rfl, rfl⟩ (fun v H locs hv hS1 => ?_)
  obtain ⟨rfl, a2, G2, ha2, hG2, hw⟩ := hv
  have X : zX D s.heap.size (zj (layC cA a2 G2 (fBody S y1 y2 y3 y4).2) (layM cA am S U)) s.heap H locs := ⟨hw, hS1⟩
  refine lv_aload_n E.1 E.2.1 dL_law_188 rfl (lv_at hl 2 rfl) ?_
  refine lv_aload_n E.1 E.2.1 dL_law_189 rfl (lv_at hl 0 rfl) ?_
  refine lv_iload_n E.1 E.2.1 dL_law_190 rfl (lv_at hl 3 rfl) ?_
  refine z_iconst E dL_law_191 ?_
  refine z_iadd E dL_law_192 ?_
  refine z_sld E X hX hbl (6 * n + 1) (by omega) (by omega) hN hy1 dL_law_193 ?_
  refine lv_aload_n E.1 E.2.1 dL_law_194 rfl (lv_at hl 0 rfl) ?_
  refine lv_iload_n E.1 E.2.1 dL_law_195 rfl (lv_at hl 3 rfl) ?_
  refine z_iconst E dL_law_196 ?_
  refine z_iadd E dL_law_197 ?_
  refine z_sld E X hX hbl (6 * n + 2) (by omega) (by omega) hN hy2 dL_law_198 ?_
  refine lv_aload_n E.1 E.2.1 dL_law_199 rfl (lv_at hl 0 rfl) ?_
  refine lv_iload_n E.1 E.2.1 dL_law_200 rfl (lv_at hl 3 rfl) ?_
  refine z_iconst E dL_law_201 ?_
  refine z_iadd E dL_law_202 ?_
  refine z_sld E X hX hbl (6 * n + 3) (by omega) (by omega) hN hy3 dL_law_203 ?_
  refine lv_aload_n E.1 E.2.1 dL_law_204 rfl (lv_at hl 0 rfl) ?_
  refine lv_iload_n E.1 E.2.1 dL_law_205 rfl (lv_at hl 3 rfl) ?_
  refine z_iconst E dL_law_206 ?_
  refine z_iadd E dL_law_207 ?_
  refine z_sld E X hX hbl (6 * n + 4) (by omega) (by omega) hN hy4 dL_law_208 ?_
  refine z_callV (As := [.int (i32 y1), .int (i32 y2), .int (i32 y3), .int (i32 y4)]) (rest := [.int (i32 (fBody S y1 y2 y3 y4).1)]) (n := 4) E X (lM_0 (layC cA a2 G2 (fBody S y1 y2 y3 y4).2) cA am S U) rfl (M_body l D cA s.heap.size (layC cA a2 G2 (fBody S y1 y2 y3 y4).2) am S U hI hC y1 y2 y3 y4 r1 r2 r3 r4) gL_law_X6_body rfl (by decide +kernel) ⟨by decide, by decide⟩ rfl hl.1 rfl (Nat.le_of_ble_eq_true rfl) dL_law_209 ⟨Nat.le_trans (by show cells + 0 ≤ cells + 2; omega) hc, Nat.le_trans (by show slots + 0 ≤ slots + 1586; omega) hs⟩ X.1 cells slots ⟨rfl, rfl⟩ (fun v H locs hv hS2 => ?_)
  obtain ⟨rfl, U2, hC2, hw⟩ := hv
  refine lv_icmp_eq (tgt := 1247) E.1 E.2.1 dL_law_212 (by decide) (fun _ => ?_) (fun h => absurd rfl h)
  refine W.widen (k := cells + 2) (n := slots + 1586) (by omega) (by omega) ?_
  exact kk a2 am G2 (fBody S y1 y2 y3 y4).2 U2 H locs ls ⟨hw, hS2⟩ (SI_fBody hI) hG2 hC2 ha2 rfl hl
set_option maxHeartbeats 4000000 in
set_option maxRecDepth 100000 in
theorem lc_element {p : Program} {l : Launch} {e : Env} {s : State} {m : MethodId} {below : List Frame} {meth : Method} {c : Code} {D : va_G} {cA : Nat → ClassId} {b N : Nat} {xs : Nat → Int32} (E : zE p s m #[Value.ref b] meth c cL_law RL meth.name wsL_law 4 ret D cA) (hX : va_X b N xs s s.heap) (hbl : b < s.heap.size) (hN : N ≤ 3072) {n : Nat} (hn : 6 * n + 6 ≤ N) {q0 q1 : Nat} {a : Nat → Nat → Nat} {am : Nat → Nat} {G : zG} {S U : zS} {H : Heap} {locs : List Loc} {ls : Array Slot} (X : zX D s.heap.size (zj (layC cA a G S) (layM cA am S U)) s.heap H locs) (hI : SI S) (hG : CG S G) (hC : MC S U) (ha : a 0 0 = q0) (hm : am 0 = q1) (hl : lv_has ls 4 [(0, .ref b), (1, .ref q0), (2, .ref q1), (3, .int (i32 ((6 * n : Nat) : Int)))]) {cells slots : Nat} (hc : cells + 2 ≤ room_1.cells) (hs : slots + 1586 ≤ room_1.slots) {Q : State → Prop} (kk : ∀ (a : Nat → Nat → Nat) (am : Nat → Nat) (G : zG) (S U : zS) (H : Heap) (locs : List Loc) (ls : Array Slot), zX D s.heap.size (zj (layC cA a G S) (layM cA am S U)) s.heap H locs → SI S → CG S G → MC S U → a 0 0 = q0 → am 0 = q1 → lv_has ls 4 [(0, .ref b), (1, .ref q0), (2, .ref q1), (3, .int (i32 ((6 * n : Nat) : Int)))] → W p l e room_1 s m #[Value.ref b] below meth c H locs (cells + 2) (slots + 1586) Q (F0 m 1247 ls [])) : W p l e room_1 s m #[Value.ref b] below meth c H locs cells slots Q (F0 m 217 ls []) := by
  subst ha
  subst hm
  obtain ⟨y1, hy1⟩ : ∃ y : Int, y = (xs (6 * n + 1)).toInt := ⟨_, rfl⟩
  have r1 : zr y1 := by rw [hy1]; exact i32_rng _
  refine lv_aload_n E.1 E.2.1 dL_law_217 rfl (lv_at hl 1 rfl) ?_
  refine lv_aload_n E.1 E.2.1 dL_law_218 rfl (lv_at hl 0 rfl) ?_
  refine lv_iload_n E.1 E.2.1 dL_law_219 rfl (lv_at hl 3 rfl) ?_
  refine z_iconst E dL_law_220 ?_
  refine z_iadd E dL_law_221 ?_
  refine z_sld E X hX hbl (6 * n + 1) (by omega) (by omega) hN hy1 dL_law_222 ?_
  refine z_callV (As := [.int (i32 y1)]) (rest := []) (n := 1) E X (lC_0 (layM cA am S U) cA a G S) rfl (X_element l D cA s.heap.size (layM cA am S U) a G S hI hG y1 r1) gL_law_X5_element rfl (by decide +kernel) ⟨by decide, by decide⟩ rfl hl.1 rfl (Nat.le_of_ble_eq_true rfl) dL_law_223 ⟨Nat.le_trans (Nat.add_le_add_left (by decide) _) hc, Nat.le_trans (Nat.add_le_add_left (by decide) _) hs⟩ X.1 (cells + 1) (slots + 4) ⟨rfl, rfl⟩ (fun v H locs hv hS1 => ?_)
  obtain ⟨rfl, a2, G2, ha2, hG2, hw⟩ := hv
  have X : zX D s.heap.size (zj (layC cA a2 G2 (fElement S y1).2) (layM cA am S U)) s.heap H locs := ⟨hw, hS1⟩
  refine lv_aload_n E.1 E.2.1 dL_law_226 rfl (lv_at hl 2 rfl) ?_
  refine lv_aload_n E.1 E.2.1 dL_law_227 rfl (lv_at hl 0 rfl) ?_
  refine lv_iload_n E.1 E.2.1 dL_law_228 rfl (lv_at hl 3 rfl) ?_
  refine z_iconst E dL_law_229 ?_
  refine z_iadd E dL_law_230 ?_
  refine z_sld E X hX hbl (6 * n + 1) (by omega) (by omega) hN hy1 dL_law_231 ?_
  refine z_callV (As := [.int (i32 y1)]) (rest := [.int (i32 (fElement S y1).1)]) (n := 1) E X (lM_0 (layC cA a2 G2 (fElement S y1).2) cA am S U) rfl (M_element l D cA s.heap.size (layC cA a2 G2 (fElement S y1).2) am S U hI hC y1 r1) gL_law_X6_element rfl (by decide +kernel) ⟨by decide, by decide⟩ rfl hl.1 rfl (Nat.le_of_ble_eq_true rfl) dL_law_232 ⟨Nat.le_trans (by show (cells + 1) + 0 ≤ cells + 2; omega) hc, Nat.le_trans (by show (slots + 4) + 0 ≤ slots + 1586; omega) hs⟩ X.1 (cells + 1) (slots + 4) ⟨rfl, rfl⟩ (fun v H locs hv hS2 => ?_)
  obtain ⟨rfl, U2, hC2, hw⟩ := hv
  refine lv_icmp_eq (tgt := 1247) E.1 E.2.1 dL_law_235 (by decide) (fun _ => ?_) (fun h => absurd rfl h)
  refine W.widen (k := cells + 2) (n := slots + 1586) (by omega) (by omega) ?_
  exact kk a2 am G2 (fElement S y1).2 U2 H locs ls ⟨hw, hS2⟩ (SI_fElement hI) hG2 hC2 ha2 rfl hl
set_option maxHeartbeats 4000000 in
set_option maxRecDepth 100000 in
theorem lc_lose {p : Program} {l : Launch} {e : Env} {s : State} {m : MethodId} {below : List Frame} {meth : Method} {c : Code} {D : va_G} {cA : Nat → ClassId} {b N : Nat} {xs : Nat → Int32} (E : zE p s m #[Value.ref b] meth c cL_law RL meth.name wsL_law 4 ret D cA) (hX : va_X b N xs s s.heap) (hbl : b < s.heap.size) (hN : N ≤ 3072) {n : Nat} (hn : 6 * n + 6 ≤ N) {q0 q1 : Nat} {a : Nat → Nat → Nat} {am : Nat → Nat} {G : zG} {S U : zS} {H : Heap} {locs : List Loc} {ls : Array Slot} (X : zX D s.heap.size (zj (layC cA a G S) (layM cA am S U)) s.heap H locs) (hI : SI S) (hG : CG S G) (hC : MC S U) (ha : a 0 0 = q0) (hm : am 0 = q1) (hl : lv_has ls 4 [(0, .ref b), (1, .ref q0), (2, .ref q1), (3, .int (i32 ((6 * n : Nat) : Int)))]) {cells slots : Nat} (hc : cells + 2 ≤ room_1.cells) (hs : slots + 1586 ≤ room_1.slots) {Q : State → Prop} (kk : ∀ (a : Nat → Nat → Nat) (am : Nat → Nat) (G : zG) (S U : zS) (H : Heap) (locs : List Loc) (ls : Array Slot), zX D s.heap.size (zj (layC cA a G S) (layM cA am S U)) s.heap H locs → SI S → CG S G → MC S U → a 0 0 = q0 → am 0 = q1 → lv_has ls 4 [(0, .ref b), (1, .ref q0), (2, .ref q1), (3, .int (i32 ((6 * n : Nat) : Int)))] → W p l e room_1 s m #[Value.ref b] below meth c H locs (cells + 2) (slots + 1586) Q (F0 m 1247 ls [])) : W p l e room_1 s m #[Value.ref b] below meth c H locs cells slots Q (F0 m 240 ls []) := by
  subst ha
  subst hm
  obtain ⟨y1, hy1⟩ : ∃ y : Int, y = (xs (6 * n + 1)).toInt := ⟨_, rfl⟩
  have r1 : zr y1 := by rw [hy1]; exact i32_rng _
  obtain ⟨y2, hy2⟩ : ∃ y : Int, y = (xs (6 * n + 2)).toInt := ⟨_, rfl⟩
  have r2 : zr y2 := by rw [hy2]; exact i32_rng _
  by_cases hz : y2 = 0
  · refine lv_aload_n E.1 E.2.1 dL_law_240 rfl (lv_at hl 1 rfl) ?_
    refine lv_aload_n E.1 E.2.1 dL_law_241 rfl (lv_at hl 0 rfl) ?_
    refine lv_iload_n E.1 E.2.1 dL_law_242 rfl (lv_at hl 3 rfl) ?_
    refine z_iconst E dL_law_243 ?_
    refine z_iadd E dL_law_244 ?_
    refine z_sld E X hX hbl (6 * n + 1) (by omega) (by omega) hN hy1 dL_law_245 ?_
    refine lv_aload_n E.1 E.2.1 dL_law_246 rfl (lv_at hl 0 rfl) ?_
    refine lv_iload_n E.1 E.2.1 dL_law_247 rfl (lv_at hl 3 rfl) ?_
    refine z_iconst E dL_law_248 ?_
    refine z_iadd E dL_law_249 ?_
    refine z_sld E X hX hbl (6 * n + 2) (by omega) (by omega) hN hy2 dL_law_250 ?_
    refine z_feq E 258 r2 dL_law_251 (by decide) (fun _ => ?_) (fun h => absurd hz h)
    refine z_iconst E dL_law_258 ?_
    refine z_callV (As := [.int (i32 y1), .int (i32 0)]) (rest := []) (n := 2) E X (lC_0 (layM cA am S U) cA a G S) rfl (X_lose l D cA s.heap.size (layM cA am S U) a G S hI hG y1 0 r1 (Or.inl rfl)) gL_law_X5_lose rfl (by decide +kernel) ⟨by decide, by decide⟩ rfl hl.1 rfl (Nat.le_of_ble_eq_true rfl) dL_law_259 ⟨Nat.le_trans (Nat.add_le_add_left (by decide) _) hc, Nat.le_trans (Nat.add_le_add_left (by decide) _) hs⟩ X.1 cells slots ⟨rfl, rfl⟩ (fun v H locs hv hS1 => ?_)
    obtain ⟨rfl, a2, G2, ha2, hG2, hw⟩ := hv
    have X : zX D s.heap.size (zj (layC cA a2 G2 (fLose S y1 0).2) (layM cA am S U)) s.heap H locs := ⟨hw, hS1⟩
    refine lv_aload_n E.1 E.2.1 dL_law_262 rfl (lv_at hl 2 rfl) ?_
    refine lv_aload_n E.1 E.2.1 dL_law_263 rfl (lv_at hl 0 rfl) ?_
    refine lv_iload_n E.1 E.2.1 dL_law_264 rfl (lv_at hl 3 rfl) ?_
    refine z_iconst E dL_law_265 ?_
    refine z_iadd E dL_law_266 ?_
    refine z_sld E X hX hbl (6 * n + 1) (by omega) (by omega) hN hy1 dL_law_267 ?_
    refine lv_aload_n E.1 E.2.1 dL_law_268 rfl (lv_at hl 0 rfl) ?_
    refine lv_iload_n E.1 E.2.1 dL_law_269 rfl (lv_at hl 3 rfl) ?_
    refine z_iconst E dL_law_270 ?_
    refine z_iadd E dL_law_271 ?_
    refine z_sld E X hX hbl (6 * n + 2) (by omega) (by omega) hN hy2 dL_law_272 ?_
    refine z_feq E 280 r2 dL_law_273 (by decide) (fun _ => ?_) (fun h => absurd hz h)
    refine z_iconst E dL_law_280 ?_
    refine z_callV (As := [.int (i32 y1), .int (i32 0)]) (rest := [.int (i32 (fLose S y1 0).1)]) (n := 2) E X (lM_0 (layC cA a2 G2 (fLose S y1 0).2) cA am S U) rfl (M_lose l D cA s.heap.size (layC cA a2 G2 (fLose S y1 0).2) am S U hI hC y1 0 r1 (Or.inl rfl)) gL_law_X6_lose rfl (by decide +kernel) ⟨by decide, by decide⟩ rfl hl.1 rfl (Nat.le_of_ble_eq_true rfl) dL_law_281 ⟨Nat.le_trans (by show cells + 0 ≤ cells + 2; omega) hc, Nat.le_trans (by show slots + 0 ≤ slots + 1586; omega) hs⟩ X.1 cells slots ⟨rfl, rfl⟩ (fun v H locs hv hS2 => ?_)
    obtain ⟨rfl, U2, hC2, hw⟩ := hv
    refine lv_icmp_eq (tgt := 1247) E.1 E.2.1 dL_law_284 (by decide) (fun _ => ?_) (fun h => absurd rfl h)
    refine W.widen (k := cells + 2) (n := slots + 1586) (by omega) (by omega) ?_
    exact kk a2 am G2 (fLose S y1 0).2 U2 H locs ls ⟨hw, hS2⟩ (SI_fLose hI (Or.inl rfl)) hG2 hC2 ha2 rfl hl
  · refine lv_aload_n E.1 E.2.1 dL_law_240 rfl (lv_at hl 1 rfl) ?_
    refine lv_aload_n E.1 E.2.1 dL_law_241 rfl (lv_at hl 0 rfl) ?_
    refine lv_iload_n E.1 E.2.1 dL_law_242 rfl (lv_at hl 3 rfl) ?_
    refine z_iconst E dL_law_243 ?_
    refine z_iadd E dL_law_244 ?_
    refine z_sld E X hX hbl (6 * n + 1) (by omega) (by omega) hN hy1 dL_law_245 ?_
    refine lv_aload_n E.1 E.2.1 dL_law_246 rfl (lv_at hl 0 rfl) ?_
    refine lv_iload_n E.1 E.2.1 dL_law_247 rfl (lv_at hl 3 rfl) ?_
    refine z_iconst E dL_law_248 ?_
    refine z_iadd E dL_law_249 ?_
    refine z_sld E X hX hbl (6 * n + 2) (by omega) (by omega) hN hy2 dL_law_250 ?_
    refine z_feq E 258 r2 dL_law_251 (by decide) (fun h => absurd h hz) (fun _ => ?_)
    refine z_iconst E dL_law_254 ?_
    refine lv_goto (tgt := 259) E.1 E.2.1 dL_law_255 (by decide) ?_
    refine z_callV (As := [.int (i32 y1), .int (i32 1)]) (rest := []) (n := 2) E X (lC_0 (layM cA am S U) cA a G S) rfl (X_lose l D cA s.heap.size (layM cA am S U) a G S hI hG y1 1 r1 (Or.inr rfl)) gL_law_X5_lose rfl (by decide +kernel) ⟨by decide, by decide⟩ rfl hl.1 rfl (Nat.le_of_ble_eq_true rfl) dL_law_259 ⟨Nat.le_trans (Nat.add_le_add_left (by decide) _) hc, Nat.le_trans (Nat.add_le_add_left (by decide) _) hs⟩ X.1 cells slots ⟨rfl, rfl⟩ (fun v H locs hv hS1 => ?_)
    obtain ⟨rfl, a2, G2, ha2, hG2, hw⟩ := hv
    have X : zX D s.heap.size (zj (layC cA a2 G2 (fLose S y1 1).2) (layM cA am S U)) s.heap H locs := ⟨hw, hS1⟩
    refine lv_aload_n E.1 E.2.1 dL_law_262 rfl (lv_at hl 2 rfl) ?_
    refine lv_aload_n E.1 E.2.1 dL_law_263 rfl (lv_at hl 0 rfl) ?_
    refine lv_iload_n E.1 E.2.1 dL_law_264 rfl (lv_at hl 3 rfl) ?_
    refine z_iconst E dL_law_265 ?_
    refine z_iadd E dL_law_266 ?_
    refine z_sld E X hX hbl (6 * n + 1) (by omega) (by omega) hN hy1 dL_law_267 ?_
    refine lv_aload_n E.1 E.2.1 dL_law_268 rfl (lv_at hl 0 rfl) ?_
    refine lv_iload_n E.1 E.2.1 dL_law_269 rfl (lv_at hl 3 rfl) ?_
    refine z_iconst E dL_law_270 ?_
    refine z_iadd E dL_law_271 ?_
    refine z_sld E X hX hbl (6 * n + 2) (by omega) (by omega) hN hy2 dL_law_272 ?_
    refine z_feq E 280 r2 dL_law_273 (by decide) (fun h => absurd h hz) (fun _ => ?_)
    refine z_iconst E dL_law_276 ?_
    refine lv_goto (tgt := 281) E.1 E.2.1 dL_law_277 (by decide) ?_
    refine z_callV (As := [.int (i32 y1), .int (i32 1)]) (rest := [.int (i32 (fLose S y1 1).1)]) (n := 2) E X (lM_0 (layC cA a2 G2 (fLose S y1 1).2) cA am S U) rfl (M_lose l D cA s.heap.size (layC cA a2 G2 (fLose S y1 1).2) am S U hI hC y1 1 r1 (Or.inr rfl)) gL_law_X6_lose rfl (by decide +kernel) ⟨by decide, by decide⟩ rfl hl.1 rfl (Nat.le_of_ble_eq_true rfl) dL_law_281 ⟨Nat.le_trans (by show cells + 0 ≤ cells + 2; omega) hc, Nat.le_trans (by show slots + 0 ≤ slots + 1586; omega) hs⟩ X.1 cells slots ⟨rfl, rfl⟩ (fun v H locs hv hS2 => ?_)
    obtain ⟨rfl, U2, hC2, hw⟩ := hv
    refine lv_icmp_eq (tgt := 1247) E.1 E.2.1 dL_law_284 (by decide) (fun _ => ?_) (fun h => absurd rfl h)
    refine W.widen (k := cells + 2) (n := slots + 1586) (by omega) (by omega) ?_
    exact kk a2 am G2 (fLose S y1 1).2 U2 H locs ls ⟨hw, hS2⟩ (SI_fLose hI (Or.inr rfl)) hG2 hC2 ha2 rfl hl
set_option maxHeartbeats 4000000 in
set_option maxRecDepth 100000 in
theorem lc_target {p : Program} {l : Launch} {e : Env} {s : State} {m : MethodId} {below : List Frame} {meth : Method} {c : Code} {D : va_G} {cA : Nat → ClassId} {b N : Nat} {xs : Nat → Int32} (E : zE p s m #[Value.ref b] meth c cL_law RL meth.name wsL_law 4 ret D cA) (hX : va_X b N xs s s.heap) (hbl : b < s.heap.size) (hN : N ≤ 3072) {n : Nat} (hn : 6 * n + 6 ≤ N) {q0 q1 : Nat} {a : Nat → Nat → Nat} {am : Nat → Nat} {G : zG} {S U : zS} {H : Heap} {locs : List Loc} {ls : Array Slot} (X : zX D s.heap.size (zj (layC cA a G S) (layM cA am S U)) s.heap H locs) (hI : SI S) (hG : CG S G) (hC : MC S U) (ha : a 0 0 = q0) (hm : am 0 = q1) (hl : lv_has ls 4 [(0, .ref b), (1, .ref q0), (2, .ref q1), (3, .int (i32 ((6 * n : Nat) : Int)))]) {cells slots : Nat} (hc : cells + 2 ≤ room_1.cells) (hs : slots + 1586 ≤ room_1.slots) {Q : State → Prop} (kk : ∀ (a : Nat → Nat → Nat) (am : Nat → Nat) (G : zG) (S U : zS) (H : Heap) (locs : List Loc) (ls : Array Slot), zX D s.heap.size (zj (layC cA a G S) (layM cA am S U)) s.heap H locs → SI S → CG S G → MC S U → a 0 0 = q0 → am 0 = q1 → lv_has ls 4 [(0, .ref b), (1, .ref q0), (2, .ref q1), (3, .int (i32 ((6 * n : Nat) : Int)))] → W p l e room_1 s m #[Value.ref b] below meth c H locs (cells + 2) (slots + 1586) Q (F0 m 1247 ls [])) : W p l e room_1 s m #[Value.ref b] below meth c H locs cells slots Q (F0 m 289 ls []) := by
  subst ha
  subst hm
  obtain ⟨y1, hy1⟩ : ∃ y : Int, y = (xs (6 * n + 1)).toInt := ⟨_, rfl⟩
  have r1 : zr y1 := by rw [hy1]; exact i32_rng _
  obtain ⟨y2, hy2⟩ : ∃ y : Int, y = (xs (6 * n + 2)).toInt := ⟨_, rfl⟩
  have r2 : zr y2 := by rw [hy2]; exact i32_rng _
  obtain ⟨y3, hy3⟩ : ∃ y : Int, y = (xs (6 * n + 3)).toInt := ⟨_, rfl⟩
  have r3 : zr y3 := by rw [hy3]; exact i32_rng _
  obtain ⟨y4, hy4⟩ : ∃ y : Int, y = (xs (6 * n + 4)).toInt := ⟨_, rfl⟩
  have r4 : zr y4 := by rw [hy4]; exact i32_rng _
  obtain ⟨y5, hy5⟩ : ∃ y : Int, y = (xs (6 * n + 5)).toInt := ⟨_, rfl⟩
  have r5 : zr y5 := by rw [hy5]; exact i32_rng _
  refine lv_aload_n E.1 E.2.1 dL_law_289 rfl (lv_at hl 1 rfl) ?_
  refine lv_aload_n E.1 E.2.1 dL_law_290 rfl (lv_at hl 0 rfl) ?_
  refine lv_iload_n E.1 E.2.1 dL_law_291 rfl (lv_at hl 3 rfl) ?_
  refine z_iconst E dL_law_292 ?_
  refine z_iadd E dL_law_293 ?_
  refine z_sld E X hX hbl (6 * n + 1) (by omega) (by omega) hN hy1 dL_law_294 ?_
  refine lv_aload_n E.1 E.2.1 dL_law_295 rfl (lv_at hl 0 rfl) ?_
  refine lv_iload_n E.1 E.2.1 dL_law_296 rfl (lv_at hl 3 rfl) ?_
  refine z_iconst E dL_law_297 ?_
  refine z_iadd E dL_law_298 ?_
  refine z_sld E X hX hbl (6 * n + 2) (by omega) (by omega) hN hy2 dL_law_299 ?_
  refine lv_aload_n E.1 E.2.1 dL_law_300 rfl (lv_at hl 0 rfl) ?_
  refine lv_iload_n E.1 E.2.1 dL_law_301 rfl (lv_at hl 3 rfl) ?_
  refine z_iconst E dL_law_302 ?_
  refine z_iadd E dL_law_303 ?_
  refine z_sld E X hX hbl (6 * n + 3) (by omega) (by omega) hN hy3 dL_law_304 ?_
  refine lv_aload_n E.1 E.2.1 dL_law_305 rfl (lv_at hl 0 rfl) ?_
  refine lv_iload_n E.1 E.2.1 dL_law_306 rfl (lv_at hl 3 rfl) ?_
  refine z_iconst E dL_law_307 ?_
  refine z_iadd E dL_law_308 ?_
  refine z_sld E X hX hbl (6 * n + 4) (by omega) (by omega) hN hy4 dL_law_309 ?_
  refine lv_aload_n E.1 E.2.1 dL_law_310 rfl (lv_at hl 0 rfl) ?_
  refine lv_iload_n E.1 E.2.1 dL_law_311 rfl (lv_at hl 3 rfl) ?_
  refine z_iconst E dL_law_312 ?_
  refine z_iadd E dL_law_313 ?_
  refine z_sld E X hX hbl (6 * n + 5) (by omega) (by omega) hN hy5 dL_law_314 ?_
  refine z_callV (As := [.int (i32 y1), .int (i32 y2), .int (i32 y3), .int (i32 y4), .int (i32 y5)]) (rest := []) (n := 5) E X (lC_0 (layM cA am S U) cA a G S) rfl (X_target l D cA s.heap.size (layM cA am S U) a G S hI hG y1 y2 y3 y4 y5 r1 r2 r3 r4 r5) gL_law_X5_target rfl (by decide +kernel) ⟨by decide, by decide⟩ rfl hl.1 rfl (Nat.le_of_ble_eq_true rfl) dL_law_315 ⟨Nat.le_trans (Nat.add_le_add_left (by decide) _) hc, Nat.le_trans (Nat.add_le_add_left (by decide) _) hs⟩ X.1 (cells + 2) (slots + 70) ⟨rfl, rfl⟩ (fun v H locs hv hS1 => ?_)
  obtain ⟨rfl, a2, G2, ha2, hG2, hw⟩ := hv
  have X : zX D s.heap.size (zj (layC cA a2 G2 (fTarget S y1 y2 y3 y4 y5).2) (layM cA am S U)) s.heap H locs := ⟨hw, hS1⟩
  refine lv_aload_n E.1 E.2.1 dL_law_318 rfl (lv_at hl 2 rfl) ?_
  refine lv_aload_n E.1 E.2.1 dL_law_319 rfl (lv_at hl 0 rfl) ?_
  refine lv_iload_n E.1 E.2.1 dL_law_320 rfl (lv_at hl 3 rfl) ?_
  refine z_iconst E dL_law_321 ?_
  refine z_iadd E dL_law_322 ?_
  refine z_sld E X hX hbl (6 * n + 1) (by omega) (by omega) hN hy1 dL_law_323 ?_
  refine lv_aload_n E.1 E.2.1 dL_law_324 rfl (lv_at hl 0 rfl) ?_
  refine lv_iload_n E.1 E.2.1 dL_law_325 rfl (lv_at hl 3 rfl) ?_
  refine z_iconst E dL_law_326 ?_
  refine z_iadd E dL_law_327 ?_
  refine z_sld E X hX hbl (6 * n + 2) (by omega) (by omega) hN hy2 dL_law_328 ?_
  refine lv_aload_n E.1 E.2.1 dL_law_329 rfl (lv_at hl 0 rfl) ?_
  refine lv_iload_n E.1 E.2.1 dL_law_330 rfl (lv_at hl 3 rfl) ?_
  refine z_iconst E dL_law_331 ?_
  refine z_iadd E dL_law_332 ?_
  refine z_sld E X hX hbl (6 * n + 3) (by omega) (by omega) hN hy3 dL_law_333 ?_
  refine lv_aload_n E.1 E.2.1 dL_law_334 rfl (lv_at hl 0 rfl) ?_
  refine lv_iload_n E.1 E.2.1 dL_law_335 rfl (lv_at hl 3 rfl) ?_
  refine z_iconst E dL_law_336 ?_
  refine z_iadd E dL_law_337 ?_
  refine z_sld E X hX hbl (6 * n + 4) (by omega) (by omega) hN hy4 dL_law_338 ?_
  refine lv_aload_n E.1 E.2.1 dL_law_339 rfl (lv_at hl 0 rfl) ?_
  refine lv_iload_n E.1 E.2.1 dL_law_340 rfl (lv_at hl 3 rfl) ?_
  refine z_iconst E dL_law_341 ?_
  refine z_iadd E dL_law_342 ?_
  refine z_sld E X hX hbl (6 * n + 5) (by omega) (by omega) hN hy5 dL_law_343 ?_
  refine z_callV (As := [.int (i32 y1), .int (i32 y2), .int (i32 y3), .int (i32 y4), .int (i32 y5)]) (rest := [.int (i32 (fTarget S y1 y2 y3 y4 y5).1)]) (n := 5) E X (lM_0 (layC cA a2 G2 (fTarget S y1 y2 y3 y4 y5).2) cA am S U) rfl (M_target l D cA s.heap.size (layC cA a2 G2 (fTarget S y1 y2 y3 y4 y5).2) am S U hI hC y1 y2 y3 y4 y5 r1 r2 r3 r4 r5) gL_law_X6_target rfl (by decide +kernel) ⟨by decide, by decide⟩ rfl hl.1 rfl (Nat.le_of_ble_eq_true rfl) dL_law_344 ⟨Nat.le_trans (by show (cells + 2) + 0 ≤ cells + 2; omega) hc, Nat.le_trans (by show (slots + 70) + 0 ≤ slots + 1586; omega) hs⟩ X.1 (cells + 2) (slots + 70) ⟨rfl, rfl⟩ (fun v H locs hv hS2 => ?_)
  obtain ⟨rfl, U2, hC2, hw⟩ := hv
  refine lv_icmp_eq (tgt := 1247) E.1 E.2.1 dL_law_347 (by decide) (fun _ => ?_) (fun h => absurd rfl h)
  refine W.widen (k := cells + 2) (n := slots + 1586) (by omega) (by omega) ?_
  exact kk a2 am G2 (fTarget S y1 y2 y3 y4 y5).2 U2 H locs ls ⟨hw, hS2⟩ (SI_fTarget hI) hG2 hC2 ha2 rfl hl
set_option maxHeartbeats 4000000 in
set_option maxRecDepth 100000 in
theorem lc_drop {p : Program} {l : Launch} {e : Env} {s : State} {m : MethodId} {below : List Frame} {meth : Method} {c : Code} {D : va_G} {cA : Nat → ClassId} {b N : Nat} {xs : Nat → Int32} (E : zE p s m #[Value.ref b] meth c cL_law RL meth.name wsL_law 4 ret D cA) (hX : va_X b N xs s s.heap) (hbl : b < s.heap.size) (hN : N ≤ 3072) {n : Nat} (hn : 6 * n + 6 ≤ N) {q0 q1 : Nat} {a : Nat → Nat → Nat} {am : Nat → Nat} {G : zG} {S U : zS} {H : Heap} {locs : List Loc} {ls : Array Slot} (X : zX D s.heap.size (zj (layC cA a G S) (layM cA am S U)) s.heap H locs) (hI : SI S) (hG : CG S G) (hC : MC S U) (ha : a 0 0 = q0) (hm : am 0 = q1) (hl : lv_has ls 4 [(0, .ref b), (1, .ref q0), (2, .ref q1), (3, .int (i32 ((6 * n : Nat) : Int)))]) {cells slots : Nat} (hc : cells + 2 ≤ room_1.cells) (hs : slots + 1586 ≤ room_1.slots) {Q : State → Prop} (kk : ∀ (a : Nat → Nat → Nat) (am : Nat → Nat) (G : zG) (S U : zS) (H : Heap) (locs : List Loc) (ls : Array Slot), zX D s.heap.size (zj (layC cA a G S) (layM cA am S U)) s.heap H locs → SI S → CG S G → MC S U → a 0 0 = q0 → am 0 = q1 → lv_has ls 4 [(0, .ref b), (1, .ref q0), (2, .ref q1), (3, .int (i32 ((6 * n : Nat) : Int)))] → W p l e room_1 s m #[Value.ref b] below meth c H locs (cells + 2) (slots + 1586) Q (F0 m 1247 ls [])) : W p l e room_1 s m #[Value.ref b] below meth c H locs cells slots Q (F0 m 352 ls []) := by
  subst ha
  subst hm
  refine lv_aload_n E.1 E.2.1 dL_law_352 rfl (lv_at hl 1 rfl) ?_
  refine z_callV (As := []) (rest := []) (n := 0) E X (lC_0 (layM cA am S U) cA a G S) rfl (X_drop l D cA s.heap.size (layM cA am S U) a G S hI hG) gL_law_X5_drop rfl (by decide +kernel) ⟨by decide, by decide⟩ rfl hl.1 rfl (Nat.le_of_ble_eq_true rfl) dL_law_353 ⟨Nat.le_trans (Nat.add_le_add_left (by decide) _) hc, Nat.le_trans (Nat.add_le_add_left (by decide) _) hs⟩ X.1 cells slots ⟨rfl, rfl⟩ (fun v H locs hv hS1 => ?_)
  obtain ⟨rfl, a2, G2, ha2, hG2, hw⟩ := hv
  have X : zX D s.heap.size (zj (layC cA a2 G2 (fDrop S).2) (layM cA am S U)) s.heap H locs := ⟨hw, hS1⟩
  refine lv_aload_n E.1 E.2.1 dL_law_356 rfl (lv_at hl 2 rfl) ?_
  refine z_callV (As := []) (rest := [.int (i32 (fDrop S).1)]) (n := 0) E X (lM_0 (layC cA a2 G2 (fDrop S).2) cA am S U) rfl (M_drop l D cA s.heap.size (layC cA a2 G2 (fDrop S).2) am S U hI hC) gL_law_X6_drop rfl (by decide +kernel) ⟨by decide, by decide⟩ rfl hl.1 rfl (Nat.le_of_ble_eq_true rfl) dL_law_357 ⟨Nat.le_trans (by show cells + 0 ≤ cells + 2; omega) hc, Nat.le_trans (by show slots + 0 ≤ slots + 1586; omega) hs⟩ X.1 cells slots ⟨rfl, rfl⟩ (fun v H locs hv hS2 => ?_)
  obtain ⟨rfl, U2, hC2, hw⟩ := hv
  refine lv_icmp_eq (tgt := 1247) E.1 E.2.1 dL_law_360 (by decide) (fun _ => ?_) (fun h => absurd rfl h)
  refine W.widen (k := cells + 2) (n := slots + 1586) (by omega) (by omega) ?_
  exact kk a2 am G2 (fDrop S).2 U2 H locs ls ⟨hw, hS2⟩ (SI_fDrop hI) hG2 hC2 ha2 rfl hl
set_option maxHeartbeats 4000000 in
set_option maxRecDepth 100000 in
theorem lc_taken {p : Program} {l : Launch} {e : Env} {s : State} {m : MethodId} {below : List Frame} {meth : Method} {c : Code} {D : va_G} {cA : Nat → ClassId} {b N : Nat} {xs : Nat → Int32} (E : zE p s m #[Value.ref b] meth c cL_law RL meth.name wsL_law 4 ret D cA) (hX : va_X b N xs s s.heap) (hbl : b < s.heap.size) (hN : N ≤ 3072) {n : Nat} (hn : 6 * n + 6 ≤ N) {q0 q1 : Nat} {a : Nat → Nat → Nat} {am : Nat → Nat} {G : zG} {S U : zS} {H : Heap} {locs : List Loc} {ls : Array Slot} (X : zX D s.heap.size (zj (layC cA a G S) (layM cA am S U)) s.heap H locs) (hI : SI S) (hG : CG S G) (hC : MC S U) (ha : a 0 0 = q0) (hm : am 0 = q1) (hl : lv_has ls 4 [(0, .ref b), (1, .ref q0), (2, .ref q1), (3, .int (i32 ((6 * n : Nat) : Int)))]) {cells slots : Nat} (hc : cells + 2 ≤ room_1.cells) (hs : slots + 1586 ≤ room_1.slots) {Q : State → Prop} (kk : ∀ (a : Nat → Nat → Nat) (am : Nat → Nat) (G : zG) (S U : zS) (H : Heap) (locs : List Loc) (ls : Array Slot), zX D s.heap.size (zj (layC cA a G S) (layM cA am S U)) s.heap H locs → SI S → CG S G → MC S U → a 0 0 = q0 → am 0 = q1 → lv_has ls 4 [(0, .ref b), (1, .ref q0), (2, .ref q1), (3, .int (i32 ((6 * n : Nat) : Int)))] → W p l e room_1 s m #[Value.ref b] below meth c H locs (cells + 2) (slots + 1586) Q (F0 m 1247 ls [])) : W p l e room_1 s m #[Value.ref b] below meth c H locs cells slots Q (F0 m 365 ls []) := by
  subst ha
  subst hm
  obtain ⟨y1, hy1⟩ : ∃ y : Int, y = (xs (6 * n + 1)).toInt := ⟨_, rfl⟩
  have r1 : zr y1 := by rw [hy1]; exact i32_rng _
  obtain ⟨y2, hy2⟩ : ∃ y : Int, y = (xs (6 * n + 2)).toInt := ⟨_, rfl⟩
  have r2 : zr y2 := by rw [hy2]; exact i32_rng _
  obtain ⟨y3, hy3⟩ : ∃ y : Int, y = (xs (6 * n + 3)).toInt := ⟨_, rfl⟩
  have r3 : zr y3 := by rw [hy3]; exact i32_rng _
  refine lv_aload_n E.1 E.2.1 dL_law_365 rfl (lv_at hl 1 rfl) ?_
  refine lv_aload_n E.1 E.2.1 dL_law_366 rfl (lv_at hl 0 rfl) ?_
  refine lv_iload_n E.1 E.2.1 dL_law_367 rfl (lv_at hl 3 rfl) ?_
  refine z_iconst E dL_law_368 ?_
  refine z_iadd E dL_law_369 ?_
  refine z_sld E X hX hbl (6 * n + 1) (by omega) (by omega) hN hy1 dL_law_370 ?_
  refine lv_aload_n E.1 E.2.1 dL_law_371 rfl (lv_at hl 0 rfl) ?_
  refine lv_iload_n E.1 E.2.1 dL_law_372 rfl (lv_at hl 3 rfl) ?_
  refine z_iconst E dL_law_373 ?_
  refine z_iadd E dL_law_374 ?_
  refine z_sld E X hX hbl (6 * n + 2) (by omega) (by omega) hN hy2 dL_law_375 ?_
  refine lv_aload_n E.1 E.2.1 dL_law_376 rfl (lv_at hl 0 rfl) ?_
  refine lv_iload_n E.1 E.2.1 dL_law_377 rfl (lv_at hl 3 rfl) ?_
  refine z_iconst E dL_law_378 ?_
  refine z_iadd E dL_law_379 ?_
  refine z_sld E X hX hbl (6 * n + 3) (by omega) (by omega) hN hy3 dL_law_380 ?_
  refine z_callV (As := [.int (i32 y1), .int (i32 y2), .int (i32 y3)]) (rest := []) (n := 3) E X (lC_0 (layM cA am S U) cA a G S) rfl (X_taken l D cA s.heap.size (layM cA am S U) a G S hI hG y1 y2 y3 r1 r2 r3) gL_law_X5_taken rfl (by decide +kernel) ⟨by decide, by decide⟩ rfl hl.1 rfl (Nat.le_of_ble_eq_true rfl) dL_law_381 ⟨Nat.le_trans (Nat.add_le_add_left (by decide) _) hc, Nat.le_trans (Nat.add_le_add_left (by decide) _) hs⟩ X.1 cells slots ⟨rfl, rfl⟩ (fun v H locs hv hS1 => ?_)
  obtain ⟨rfl, a2, G2, ha2, hG2, hw⟩ := hv
  have X : zX D s.heap.size (zj (layC cA a2 G2 (fTaken S y1 y2 y3).2) (layM cA am S U)) s.heap H locs := ⟨hw, hS1⟩
  refine lv_aload_n E.1 E.2.1 dL_law_384 rfl (lv_at hl 2 rfl) ?_
  refine lv_aload_n E.1 E.2.1 dL_law_385 rfl (lv_at hl 0 rfl) ?_
  refine lv_iload_n E.1 E.2.1 dL_law_386 rfl (lv_at hl 3 rfl) ?_
  refine z_iconst E dL_law_387 ?_
  refine z_iadd E dL_law_388 ?_
  refine z_sld E X hX hbl (6 * n + 1) (by omega) (by omega) hN hy1 dL_law_389 ?_
  refine lv_aload_n E.1 E.2.1 dL_law_390 rfl (lv_at hl 0 rfl) ?_
  refine lv_iload_n E.1 E.2.1 dL_law_391 rfl (lv_at hl 3 rfl) ?_
  refine z_iconst E dL_law_392 ?_
  refine z_iadd E dL_law_393 ?_
  refine z_sld E X hX hbl (6 * n + 2) (by omega) (by omega) hN hy2 dL_law_394 ?_
  refine lv_aload_n E.1 E.2.1 dL_law_395 rfl (lv_at hl 0 rfl) ?_
  refine lv_iload_n E.1 E.2.1 dL_law_396 rfl (lv_at hl 3 rfl) ?_
  refine z_iconst E dL_law_397 ?_
  refine z_iadd E dL_law_398 ?_
  refine z_sld E X hX hbl (6 * n + 3) (by omega) (by omega) hN hy3 dL_law_399 ?_
  refine z_callV (As := [.int (i32 y1), .int (i32 y2), .int (i32 y3)]) (rest := [.int (i32 (fTaken S y1 y2 y3).1)]) (n := 3) E X (lM_0 (layC cA a2 G2 (fTaken S y1 y2 y3).2) cA am S U) rfl (M_taken l D cA s.heap.size (layC cA a2 G2 (fTaken S y1 y2 y3).2) am S U hI hC y1 y2 y3 r1 r2 r3) gL_law_X6_taken rfl (by decide +kernel) ⟨by decide, by decide⟩ rfl hl.1 rfl (Nat.le_of_ble_eq_true rfl) dL_law_400 ⟨Nat.le_trans (by show cells + 0 ≤ cells + 2; omega) hc, Nat.le_trans (by show slots + 0 ≤ slots + 1586; omega) hs⟩ X.1 cells slots ⟨rfl, rfl⟩ (fun v H locs hv hS2 => ?_)
  obtain ⟨rfl, U2, hC2, hw⟩ := hv
  refine lv_icmp_eq (tgt := 1247) E.1 E.2.1 dL_law_403 (by decide) (fun _ => ?_) (fun h => absurd rfl h)
  refine W.widen (k := cells + 2) (n := slots + 1586) (by omega) (by omega) ?_
  exact kk a2 am G2 (fTaken S y1 y2 y3).2 U2 H locs ls ⟨hw, hS2⟩ (SI_fTaken hI) hG2 hC2 ha2 rfl hl
set_option maxHeartbeats 4000000 in
set_option maxRecDepth 100000 in
theorem lc_time {p : Program} {l : Launch} {e : Env} {s : State} {m : MethodId} {below : List Frame} {meth : Method} {c : Code} {D : va_G} {cA : Nat → ClassId} {b N : Nat} {xs : Nat → Int32} (E : zE p s m #[Value.ref b] meth c cL_law RL meth.name wsL_law 4 ret D cA) (hX : va_X b N xs s s.heap) (hbl : b < s.heap.size) (hN : N ≤ 3072) {n : Nat} (hn : 6 * n + 6 ≤ N) {q0 q1 : Nat} {a : Nat → Nat → Nat} {am : Nat → Nat} {G : zG} {S U : zS} {H : Heap} {locs : List Loc} {ls : Array Slot} (X : zX D s.heap.size (zj (layC cA a G S) (layM cA am S U)) s.heap H locs) (hI : SI S) (hG : CG S G) (hC : MC S U) (ha : a 0 0 = q0) (hm : am 0 = q1) (hl : lv_has ls 4 [(0, .ref b), (1, .ref q0), (2, .ref q1), (3, .int (i32 ((6 * n : Nat) : Int)))]) {cells slots : Nat} (hc : cells + 2 ≤ room_1.cells) (hs : slots + 1586 ≤ room_1.slots) {Q : State → Prop} (kk : ∀ (a : Nat → Nat → Nat) (am : Nat → Nat) (G : zG) (S U : zS) (H : Heap) (locs : List Loc) (ls : Array Slot), zX D s.heap.size (zj (layC cA a G S) (layM cA am S U)) s.heap H locs → SI S → CG S G → MC S U → a 0 0 = q0 → am 0 = q1 → lv_has ls 4 [(0, .ref b), (1, .ref q0), (2, .ref q1), (3, .int (i32 ((6 * n : Nat) : Int)))] → W p l e room_1 s m #[Value.ref b] below meth c H locs (cells + 2) (slots + 1586) Q (F0 m 1247 ls [])) : W p l e room_1 s m #[Value.ref b] below meth c H locs cells slots Q (F0 m 408 ls []) := by
  subst ha
  subst hm
  obtain ⟨y1, hy1⟩ : ∃ y : Int, y = (xs (6 * n + 1)).toInt := ⟨_, rfl⟩
  have r1 : zr y1 := by rw [hy1]; exact i32_rng _
  obtain ⟨y2, hy2⟩ : ∃ y : Int, y = (xs (6 * n + 2)).toInt := ⟨_, rfl⟩
  have r2 : zr y2 := by rw [hy2]; exact i32_rng _
  obtain ⟨y3, hy3⟩ : ∃ y : Int, y = (xs (6 * n + 3)).toInt := ⟨_, rfl⟩
  have r3 : zr y3 := by rw [hy3]; exact i32_rng _
  refine lv_aload_n E.1 E.2.1 dL_law_408 rfl (lv_at hl 1 rfl) ?_
  refine lv_aload_n E.1 E.2.1 dL_law_409 rfl (lv_at hl 0 rfl) ?_
  refine lv_iload_n E.1 E.2.1 dL_law_410 rfl (lv_at hl 3 rfl) ?_
  refine z_iconst E dL_law_411 ?_
  refine z_iadd E dL_law_412 ?_
  refine z_sld E X hX hbl (6 * n + 1) (by omega) (by omega) hN hy1 dL_law_413 ?_
  refine lv_aload_n E.1 E.2.1 dL_law_414 rfl (lv_at hl 0 rfl) ?_
  refine lv_iload_n E.1 E.2.1 dL_law_415 rfl (lv_at hl 3 rfl) ?_
  refine z_iconst E dL_law_416 ?_
  refine z_iadd E dL_law_417 ?_
  refine z_sld E X hX hbl (6 * n + 2) (by omega) (by omega) hN hy2 dL_law_418 ?_
  refine lv_aload_n E.1 E.2.1 dL_law_419 rfl (lv_at hl 0 rfl) ?_
  refine lv_iload_n E.1 E.2.1 dL_law_420 rfl (lv_at hl 3 rfl) ?_
  refine z_iconst E dL_law_421 ?_
  refine z_iadd E dL_law_422 ?_
  refine z_sld E X hX hbl (6 * n + 3) (by omega) (by omega) hN hy3 dL_law_423 ?_
  refine z_callV (As := [.int (i32 y1), .int (i32 y2), .int (i32 y3)]) (rest := []) (n := 3) E X (lC_0 (layM cA am S U) cA a G S) rfl (X_time l D cA s.heap.size (layM cA am S U) a G S hI hG y1 y2 y3 r1 r2 r3) gL_law_X5_time rfl (by decide +kernel) ⟨by decide, by decide⟩ rfl hl.1 rfl (Nat.le_of_ble_eq_true rfl) dL_law_424 ⟨Nat.le_trans (Nat.add_le_add_left (by decide) _) hc, Nat.le_trans (Nat.add_le_add_left (by decide) _) hs⟩ X.1 cells slots ⟨rfl, rfl⟩ (fun v H locs hv hS1 => ?_)
  obtain ⟨rfl, a2, G2, ha2, hG2, hw⟩ := hv
  have X : zX D s.heap.size (zj (layC cA a2 G2 (fTime S y1 y2 y3).2) (layM cA am S U)) s.heap H locs := ⟨hw, hS1⟩
  refine lv_aload_n E.1 E.2.1 dL_law_427 rfl (lv_at hl 2 rfl) ?_
  refine lv_aload_n E.1 E.2.1 dL_law_428 rfl (lv_at hl 0 rfl) ?_
  refine lv_iload_n E.1 E.2.1 dL_law_429 rfl (lv_at hl 3 rfl) ?_
  refine z_iconst E dL_law_430 ?_
  refine z_iadd E dL_law_431 ?_
  refine z_sld E X hX hbl (6 * n + 1) (by omega) (by omega) hN hy1 dL_law_432 ?_
  refine lv_aload_n E.1 E.2.1 dL_law_433 rfl (lv_at hl 0 rfl) ?_
  refine lv_iload_n E.1 E.2.1 dL_law_434 rfl (lv_at hl 3 rfl) ?_
  refine z_iconst E dL_law_435 ?_
  refine z_iadd E dL_law_436 ?_
  refine z_sld E X hX hbl (6 * n + 2) (by omega) (by omega) hN hy2 dL_law_437 ?_
  refine lv_aload_n E.1 E.2.1 dL_law_438 rfl (lv_at hl 0 rfl) ?_
  refine lv_iload_n E.1 E.2.1 dL_law_439 rfl (lv_at hl 3 rfl) ?_
  refine z_iconst E dL_law_440 ?_
  refine z_iadd E dL_law_441 ?_
  refine z_sld E X hX hbl (6 * n + 3) (by omega) (by omega) hN hy3 dL_law_442 ?_
  refine z_callV (As := [.int (i32 y1), .int (i32 y2), .int (i32 y3)]) (rest := [.int (i32 (fTime S y1 y2 y3).1)]) (n := 3) E X (lM_0 (layC cA a2 G2 (fTime S y1 y2 y3).2) cA am S U) rfl (M_time l D cA s.heap.size (layC cA a2 G2 (fTime S y1 y2 y3).2) am S U hI hC y1 y2 y3 r1 r2 r3) gL_law_X6_time rfl (by decide +kernel) ⟨by decide, by decide⟩ rfl hl.1 rfl (Nat.le_of_ble_eq_true rfl) dL_law_443 ⟨Nat.le_trans (by show cells + 0 ≤ cells + 2; omega) hc, Nat.le_trans (by show slots + 0 ≤ slots + 1586; omega) hs⟩ X.1 cells slots ⟨rfl, rfl⟩ (fun v H locs hv hS2 => ?_)
  obtain ⟨rfl, U2, hC2, hw⟩ := hv
  refine lv_icmp_eq (tgt := 1247) E.1 E.2.1 dL_law_446 (by decide) (fun _ => ?_) (fun h => absurd rfl h)
  refine W.widen (k := cells + 2) (n := slots + 1586) (by omega) (by omega) ?_
  exact kk a2 am G2 (fTime S y1 y2 y3).2 U2 H locs ls ⟨hw, hS2⟩ (SI_fTime hI) hG2 hC2 ha2 rfl hl
set_option maxHeartbeats 4000000 in
set_option maxRecDepth 100000 in
theorem lc_bend {p : Program} {l : Launch} {e : Env} {s : State} {m : MethodId} {below : List Frame} {meth : Method} {c : Code} {D : va_G} {cA : Nat → ClassId} {b N : Nat} {xs : Nat → Int32} (E : zE p s m #[Value.ref b] meth c cL_law RL meth.name wsL_law 4 ret D cA) (hX : va_X b N xs s s.heap) (hbl : b < s.heap.size) (hN : N ≤ 3072) {n : Nat} (hn : 6 * n + 6 ≤ N) {q0 q1 : Nat} {a : Nat → Nat → Nat} {am : Nat → Nat} {G : zG} {S U : zS} {H : Heap} {locs : List Loc} {ls : Array Slot} (X : zX D s.heap.size (zj (layC cA a G S) (layM cA am S U)) s.heap H locs) (hI : SI S) (hG : CG S G) (hC : MC S U) (ha : a 0 0 = q0) (hm : am 0 = q1) (hl : lv_has ls 4 [(0, .ref b), (1, .ref q0), (2, .ref q1), (3, .int (i32 ((6 * n : Nat) : Int)))]) {cells slots : Nat} (hc : cells + 2 ≤ room_1.cells) (hs : slots + 1586 ≤ room_1.slots) {Q : State → Prop} (kk : ∀ (a : Nat → Nat → Nat) (am : Nat → Nat) (G : zG) (S U : zS) (H : Heap) (locs : List Loc) (ls : Array Slot), zX D s.heap.size (zj (layC cA a G S) (layM cA am S U)) s.heap H locs → SI S → CG S G → MC S U → a 0 0 = q0 → am 0 = q1 → lv_has ls 4 [(0, .ref b), (1, .ref q0), (2, .ref q1), (3, .int (i32 ((6 * n : Nat) : Int)))] → W p l e room_1 s m #[Value.ref b] below meth c H locs (cells + 2) (slots + 1586) Q (F0 m 1247 ls [])) : W p l e room_1 s m #[Value.ref b] below meth c H locs cells slots Q (F0 m 451 ls []) := by
  subst ha
  subst hm
  obtain ⟨y1, hy1⟩ : ∃ y : Int, y = (xs (6 * n + 1)).toInt := ⟨_, rfl⟩
  have r1 : zr y1 := by rw [hy1]; exact i32_rng _
  obtain ⟨y2, hy2⟩ : ∃ y : Int, y = (xs (6 * n + 2)).toInt := ⟨_, rfl⟩
  have r2 : zr y2 := by rw [hy2]; exact i32_rng _
  obtain ⟨y3, hy3⟩ : ∃ y : Int, y = (xs (6 * n + 3)).toInt := ⟨_, rfl⟩
  have r3 : zr y3 := by rw [hy3]; exact i32_rng _
  refine lv_aload_n E.1 E.2.1 dL_law_451 rfl (lv_at hl 1 rfl) ?_
  refine lv_aload_n E.1 E.2.1 dL_law_452 rfl (lv_at hl 0 rfl) ?_
  refine lv_iload_n E.1 E.2.1 dL_law_453 rfl (lv_at hl 3 rfl) ?_
  refine z_iconst E dL_law_454 ?_
  refine z_iadd E dL_law_455 ?_
  refine z_sld E X hX hbl (6 * n + 1) (by omega) (by omega) hN hy1 dL_law_456 ?_
  refine lv_aload_n E.1 E.2.1 dL_law_457 rfl (lv_at hl 0 rfl) ?_
  refine lv_iload_n E.1 E.2.1 dL_law_458 rfl (lv_at hl 3 rfl) ?_
  refine z_iconst E dL_law_459 ?_
  refine z_iadd E dL_law_460 ?_
  refine z_sld E X hX hbl (6 * n + 2) (by omega) (by omega) hN hy2 dL_law_461 ?_
  refine lv_aload_n E.1 E.2.1 dL_law_462 rfl (lv_at hl 0 rfl) ?_
  refine lv_iload_n E.1 E.2.1 dL_law_463 rfl (lv_at hl 3 rfl) ?_
  refine z_iconst E dL_law_464 ?_
  refine z_iadd E dL_law_465 ?_
  refine z_sld E X hX hbl (6 * n + 3) (by omega) (by omega) hN hy3 dL_law_466 ?_
  refine z_callV (As := [.int (i32 y1), .int (i32 y2), .int (i32 y3)]) (rest := []) (n := 3) E X (lC_0 (layM cA am S U) cA a G S) rfl (X_bend l D cA s.heap.size (layM cA am S U) a G S hI hG y1 y2 y3 r1 r2 r3) gL_law_X5_bend rfl (by decide +kernel) ⟨by decide, by decide⟩ rfl hl.1 rfl (Nat.le_of_ble_eq_true rfl) dL_law_467 ⟨Nat.le_trans (Nat.add_le_add_left (by decide) _) hc, Nat.le_trans (Nat.add_le_add_left (by decide) _) hs⟩ X.1 cells slots ⟨rfl, rfl⟩ (fun v H locs hv hS1 => ?_)
  obtain ⟨rfl, a2, G2, ha2, hG2, hw⟩ := hv
  have X : zX D s.heap.size (zj (layC cA a2 G2 (fBend S y1 y2 y3).2) (layM cA am S U)) s.heap H locs := ⟨hw, hS1⟩
  refine lv_aload_n E.1 E.2.1 dL_law_470 rfl (lv_at hl 2 rfl) ?_
  refine lv_aload_n E.1 E.2.1 dL_law_471 rfl (lv_at hl 0 rfl) ?_
  refine lv_iload_n E.1 E.2.1 dL_law_472 rfl (lv_at hl 3 rfl) ?_
  refine z_iconst E dL_law_473 ?_
  refine z_iadd E dL_law_474 ?_
  refine z_sld E X hX hbl (6 * n + 1) (by omega) (by omega) hN hy1 dL_law_475 ?_
  refine lv_aload_n E.1 E.2.1 dL_law_476 rfl (lv_at hl 0 rfl) ?_
  refine lv_iload_n E.1 E.2.1 dL_law_477 rfl (lv_at hl 3 rfl) ?_
  refine z_iconst E dL_law_478 ?_
  refine z_iadd E dL_law_479 ?_
  refine z_sld E X hX hbl (6 * n + 2) (by omega) (by omega) hN hy2 dL_law_480 ?_
  refine lv_aload_n E.1 E.2.1 dL_law_481 rfl (lv_at hl 0 rfl) ?_
  refine lv_iload_n E.1 E.2.1 dL_law_482 rfl (lv_at hl 3 rfl) ?_
  refine z_iconst E dL_law_483 ?_
  refine z_iadd E dL_law_484 ?_
  refine z_sld E X hX hbl (6 * n + 3) (by omega) (by omega) hN hy3 dL_law_485 ?_
  refine z_callV (As := [.int (i32 y1), .int (i32 y2), .int (i32 y3)]) (rest := [.int (i32 (fBend S y1 y2 y3).1)]) (n := 3) E X (lM_0 (layC cA a2 G2 (fBend S y1 y2 y3).2) cA am S U) rfl (M_bend l D cA s.heap.size (layC cA a2 G2 (fBend S y1 y2 y3).2) am S U hI hC y1 y2 y3 r1 r2 r3) gL_law_X6_bend rfl (by decide +kernel) ⟨by decide, by decide⟩ rfl hl.1 rfl (Nat.le_of_ble_eq_true rfl) dL_law_486 ⟨Nat.le_trans (by show cells + 0 ≤ cells + 2; omega) hc, Nat.le_trans (by show slots + 0 ≤ slots + 1586; omega) hs⟩ X.1 cells slots ⟨rfl, rfl⟩ (fun v H locs hv hS2 => ?_)
  obtain ⟨rfl, U2, hC2, hw⟩ := hv
  refine lv_icmp_eq (tgt := 1247) E.1 E.2.1 dL_law_489 (by decide) (fun _ => ?_) (fun h => absurd rfl h)
  refine W.widen (k := cells + 2) (n := slots + 1586) (by omega) (by omega) ?_
  exact kk a2 am G2 (fBend S y1 y2 y3).2 U2 H locs ls ⟨hw, hS2⟩ (SI_fBend hI) hG2 hC2 ha2 rfl hl
set_option maxHeartbeats 4000000 in
set_option maxRecDepth 100000 in
theorem lc_echoTime {p : Program} {l : Launch} {e : Env} {s : State} {m : MethodId} {below : List Frame} {meth : Method} {c : Code} {D : va_G} {cA : Nat → ClassId} {b N : Nat} {xs : Nat → Int32} (E : zE p s m #[Value.ref b] meth c cL_law RL meth.name wsL_law 4 ret D cA) (hX : va_X b N xs s s.heap) (hbl : b < s.heap.size) (hN : N ≤ 3072) {n : Nat} (hn : 6 * n + 6 ≤ N) {q0 q1 : Nat} {a : Nat → Nat → Nat} {am : Nat → Nat} {G : zG} {S U : zS} {H : Heap} {locs : List Loc} {ls : Array Slot} (X : zX D s.heap.size (zj (layC cA a G S) (layM cA am S U)) s.heap H locs) (hI : SI S) (hG : CG S G) (hC : MC S U) (ha : a 0 0 = q0) (hm : am 0 = q1) (hl : lv_has ls 4 [(0, .ref b), (1, .ref q0), (2, .ref q1), (3, .int (i32 ((6 * n : Nat) : Int)))]) {cells slots : Nat} (hc : cells + 2 ≤ room_1.cells) (hs : slots + 1586 ≤ room_1.slots) {Q : State → Prop} (kk : ∀ (a : Nat → Nat → Nat) (am : Nat → Nat) (G : zG) (S U : zS) (H : Heap) (locs : List Loc) (ls : Array Slot), zX D s.heap.size (zj (layC cA a G S) (layM cA am S U)) s.heap H locs → SI S → CG S G → MC S U → a 0 0 = q0 → am 0 = q1 → lv_has ls 4 [(0, .ref b), (1, .ref q0), (2, .ref q1), (3, .int (i32 ((6 * n : Nat) : Int)))] → W p l e room_1 s m #[Value.ref b] below meth c H locs (cells + 2) (slots + 1586) Q (F0 m 1247 ls [])) : W p l e room_1 s m #[Value.ref b] below meth c H locs cells slots Q (F0 m 494 ls []) := by
  subst ha
  subst hm
  obtain ⟨y1, hy1⟩ : ∃ y : Int, y = (xs (6 * n + 1)).toInt := ⟨_, rfl⟩
  have r1 : zr y1 := by rw [hy1]; exact i32_rng _
  obtain ⟨y2, hy2⟩ : ∃ y : Int, y = (xs (6 * n + 2)).toInt := ⟨_, rfl⟩
  have r2 : zr y2 := by rw [hy2]; exact i32_rng _
  obtain ⟨y3, hy3⟩ : ∃ y : Int, y = (xs (6 * n + 3)).toInt := ⟨_, rfl⟩
  have r3 : zr y3 := by rw [hy3]; exact i32_rng _
  refine lv_aload_n E.1 E.2.1 dL_law_494 rfl (lv_at hl 1 rfl) ?_
  refine lv_aload_n E.1 E.2.1 dL_law_495 rfl (lv_at hl 0 rfl) ?_
  refine lv_iload_n E.1 E.2.1 dL_law_496 rfl (lv_at hl 3 rfl) ?_
  refine z_iconst E dL_law_497 ?_
  refine z_iadd E dL_law_498 ?_
  refine z_sld E X hX hbl (6 * n + 1) (by omega) (by omega) hN hy1 dL_law_499 ?_
  refine lv_aload_n E.1 E.2.1 dL_law_500 rfl (lv_at hl 0 rfl) ?_
  refine lv_iload_n E.1 E.2.1 dL_law_501 rfl (lv_at hl 3 rfl) ?_
  refine z_iconst E dL_law_502 ?_
  refine z_iadd E dL_law_503 ?_
  refine z_sld E X hX hbl (6 * n + 2) (by omega) (by omega) hN hy2 dL_law_504 ?_
  refine lv_aload_n E.1 E.2.1 dL_law_505 rfl (lv_at hl 0 rfl) ?_
  refine lv_iload_n E.1 E.2.1 dL_law_506 rfl (lv_at hl 3 rfl) ?_
  refine z_iconst E dL_law_507 ?_
  refine z_iadd E dL_law_508 ?_
  refine z_sld E X hX hbl (6 * n + 3) (by omega) (by omega) hN hy3 dL_law_509 ?_
  refine z_callV (As := [.int (i32 y1), .int (i32 y2), .int (i32 y3)]) (rest := []) (n := 3) E X (lC_0 (layM cA am S U) cA a G S) rfl (X_echoTime l D cA s.heap.size (layM cA am S U) a G S hI hG y1 y2 y3 r1 r2 r3) gL_law_X5_echoTime rfl (by decide +kernel) ⟨by decide, by decide⟩ rfl hl.1 rfl (Nat.le_of_ble_eq_true rfl) dL_law_510 ⟨Nat.le_trans (Nat.add_le_add_left (by decide) _) hc, Nat.le_trans (Nat.add_le_add_left (by decide) _) hs⟩ X.1 cells slots ⟨rfl, rfl⟩ (fun v H locs hv hS1 => ?_)
  obtain ⟨rfl, a2, G2, ha2, hG2, hw⟩ := hv
  have X : zX D s.heap.size (zj (layC cA a2 G2 (fEchoTime S y1 y2 y3).2) (layM cA am S U)) s.heap H locs := ⟨hw, hS1⟩
  refine lv_aload_n E.1 E.2.1 dL_law_513 rfl (lv_at hl 2 rfl) ?_
  refine lv_aload_n E.1 E.2.1 dL_law_514 rfl (lv_at hl 0 rfl) ?_
  refine lv_iload_n E.1 E.2.1 dL_law_515 rfl (lv_at hl 3 rfl) ?_
  refine z_iconst E dL_law_516 ?_
  refine z_iadd E dL_law_517 ?_
  refine z_sld E X hX hbl (6 * n + 1) (by omega) (by omega) hN hy1 dL_law_518 ?_
  refine lv_aload_n E.1 E.2.1 dL_law_519 rfl (lv_at hl 0 rfl) ?_
  refine lv_iload_n E.1 E.2.1 dL_law_520 rfl (lv_at hl 3 rfl) ?_
  refine z_iconst E dL_law_521 ?_
  refine z_iadd E dL_law_522 ?_
  refine z_sld E X hX hbl (6 * n + 2) (by omega) (by omega) hN hy2 dL_law_523 ?_
  refine lv_aload_n E.1 E.2.1 dL_law_524 rfl (lv_at hl 0 rfl) ?_
  refine lv_iload_n E.1 E.2.1 dL_law_525 rfl (lv_at hl 3 rfl) ?_
  refine z_iconst E dL_law_526 ?_
  refine z_iadd E dL_law_527 ?_
  refine z_sld E X hX hbl (6 * n + 3) (by omega) (by omega) hN hy3 dL_law_528 ?_
  refine z_callV (As := [.int (i32 y1), .int (i32 y2), .int (i32 y3)]) (rest := [.int (i32 (fEchoTime S y1 y2 y3).1)]) (n := 3) E X (lM_0 (layC cA a2 G2 (fEchoTime S y1 y2 y3).2) cA am S U) rfl (M_echoTime l D cA s.heap.size (layC cA a2 G2 (fEchoTime S y1 y2 y3).2) am S U hI hC y1 y2 y3 r1 r2 r3) gL_law_X6_echoTime rfl (by decide +kernel) ⟨by decide, by decide⟩ rfl hl.1 rfl (Nat.le_of_ble_eq_true rfl) dL_law_529 ⟨Nat.le_trans (by show cells + 0 ≤ cells + 2; omega) hc, Nat.le_trans (by show slots + 0 ≤ slots + 1586; omega) hs⟩ X.1 cells slots ⟨rfl, rfl⟩ (fun v H locs hv hS2 => ?_)
  obtain ⟨rfl, U2, hC2, hw⟩ := hv
  refine lv_icmp_eq (tgt := 1247) E.1 E.2.1 dL_law_532 (by decide) (fun _ => ?_) (fun h => absurd rfl h)
  refine W.widen (k := cells + 2) (n := slots + 1586) (by omega) (by omega) ?_
  exact kk a2 am G2 (fEchoTime S y1 y2 y3).2 U2 H locs ls ⟨hw, hS2⟩ (SI_fEchoTime hI) hG2 hC2 ha2 rfl hl
set_option maxHeartbeats 4000000 in
set_option maxRecDepth 100000 in
theorem lc_slowness {p : Program} {l : Launch} {e : Env} {s : State} {m : MethodId} {below : List Frame} {meth : Method} {c : Code} {D : va_G} {cA : Nat → ClassId} {b N : Nat} {xs : Nat → Int32} (E : zE p s m #[Value.ref b] meth c cL_law RL meth.name wsL_law 4 ret D cA) (hX : va_X b N xs s s.heap) (hbl : b < s.heap.size) (hN : N ≤ 3072) {n : Nat} (hn : 6 * n + 6 ≤ N) {q0 q1 : Nat} {a : Nat → Nat → Nat} {am : Nat → Nat} {G : zG} {S U : zS} {H : Heap} {locs : List Loc} {ls : Array Slot} (X : zX D s.heap.size (zj (layC cA a G S) (layM cA am S U)) s.heap H locs) (hI : SI S) (hG : CG S G) (hC : MC S U) (ha : a 0 0 = q0) (hm : am 0 = q1) (hl : lv_has ls 4 [(0, .ref b), (1, .ref q0), (2, .ref q1), (3, .int (i32 ((6 * n : Nat) : Int)))]) {cells slots : Nat} (hc : cells + 2 ≤ room_1.cells) (hs : slots + 1586 ≤ room_1.slots) {Q : State → Prop} (kk : ∀ (a : Nat → Nat → Nat) (am : Nat → Nat) (G : zG) (S U : zS) (H : Heap) (locs : List Loc) (ls : Array Slot), zX D s.heap.size (zj (layC cA a G S) (layM cA am S U)) s.heap H locs → SI S → CG S G → MC S U → a 0 0 = q0 → am 0 = q1 → lv_has ls 4 [(0, .ref b), (1, .ref q0), (2, .ref q1), (3, .int (i32 ((6 * n : Nat) : Int)))] → W p l e room_1 s m #[Value.ref b] below meth c H locs (cells + 2) (slots + 1586) Q (F0 m 1247 ls [])) : W p l e room_1 s m #[Value.ref b] below meth c H locs cells slots Q (F0 m 537 ls []) := by
  subst ha
  subst hm
  obtain ⟨y1, hy1⟩ : ∃ y : Int, y = (xs (6 * n + 1)).toInt := ⟨_, rfl⟩
  have r1 : zr y1 := by rw [hy1]; exact i32_rng _
  obtain ⟨y2, hy2⟩ : ∃ y : Int, y = (xs (6 * n + 2)).toInt := ⟨_, rfl⟩
  have r2 : zr y2 := by rw [hy2]; exact i32_rng _
  obtain ⟨y3, hy3⟩ : ∃ y : Int, y = (xs (6 * n + 3)).toInt := ⟨_, rfl⟩
  have r3 : zr y3 := by rw [hy3]; exact i32_rng _
  refine lv_aload_n E.1 E.2.1 dL_law_537 rfl (lv_at hl 1 rfl) ?_
  refine lv_aload_n E.1 E.2.1 dL_law_538 rfl (lv_at hl 0 rfl) ?_
  refine lv_iload_n E.1 E.2.1 dL_law_539 rfl (lv_at hl 3 rfl) ?_
  refine z_iconst E dL_law_540 ?_
  refine z_iadd E dL_law_541 ?_
  refine z_sld E X hX hbl (6 * n + 1) (by omega) (by omega) hN hy1 dL_law_542 ?_
  refine lv_aload_n E.1 E.2.1 dL_law_543 rfl (lv_at hl 0 rfl) ?_
  refine lv_iload_n E.1 E.2.1 dL_law_544 rfl (lv_at hl 3 rfl) ?_
  refine z_iconst E dL_law_545 ?_
  refine z_iadd E dL_law_546 ?_
  refine z_sld E X hX hbl (6 * n + 2) (by omega) (by omega) hN hy2 dL_law_547 ?_
  refine lv_aload_n E.1 E.2.1 dL_law_548 rfl (lv_at hl 0 rfl) ?_
  refine lv_iload_n E.1 E.2.1 dL_law_549 rfl (lv_at hl 3 rfl) ?_
  refine z_iconst E dL_law_550 ?_
  refine z_iadd E dL_law_551 ?_
  refine z_sld E X hX hbl (6 * n + 3) (by omega) (by omega) hN hy3 dL_law_552 ?_
  refine z_callV (As := [.int (i32 y1), .int (i32 y2), .int (i32 y3)]) (rest := []) (n := 3) E X (lC_0 (layM cA am S U) cA a G S) rfl (X_slowness l D cA s.heap.size (layM cA am S U) a G S hI hG y1 y2 y3 r1 r2 r3) gL_law_X5_slowness rfl (by decide +kernel) ⟨by decide, by decide⟩ rfl hl.1 rfl (Nat.le_of_ble_eq_true rfl) dL_law_553 ⟨Nat.le_trans (Nat.add_le_add_left (by decide) _) hc, Nat.le_trans (Nat.add_le_add_left (by decide) _) hs⟩ X.1 cells slots ⟨rfl, rfl⟩ (fun v H locs hv hS1 => ?_)
  obtain ⟨rfl, a2, G2, ha2, hG2, hw⟩ := hv
  have X : zX D s.heap.size (zj (layC cA a2 G2 (fSlow S y1 y2 y3).2) (layM cA am S U)) s.heap H locs := ⟨hw, hS1⟩
  refine lv_aload_n E.1 E.2.1 dL_law_556 rfl (lv_at hl 2 rfl) ?_
  refine lv_aload_n E.1 E.2.1 dL_law_557 rfl (lv_at hl 0 rfl) ?_
  refine lv_iload_n E.1 E.2.1 dL_law_558 rfl (lv_at hl 3 rfl) ?_
  refine z_iconst E dL_law_559 ?_
  refine z_iadd E dL_law_560 ?_
  refine z_sld E X hX hbl (6 * n + 1) (by omega) (by omega) hN hy1 dL_law_561 ?_
  refine lv_aload_n E.1 E.2.1 dL_law_562 rfl (lv_at hl 0 rfl) ?_
  refine lv_iload_n E.1 E.2.1 dL_law_563 rfl (lv_at hl 3 rfl) ?_
  refine z_iconst E dL_law_564 ?_
  refine z_iadd E dL_law_565 ?_
  refine z_sld E X hX hbl (6 * n + 2) (by omega) (by omega) hN hy2 dL_law_566 ?_
  refine lv_aload_n E.1 E.2.1 dL_law_567 rfl (lv_at hl 0 rfl) ?_
  refine lv_iload_n E.1 E.2.1 dL_law_568 rfl (lv_at hl 3 rfl) ?_
  refine z_iconst E dL_law_569 ?_
  refine z_iadd E dL_law_570 ?_
  refine z_sld E X hX hbl (6 * n + 3) (by omega) (by omega) hN hy3 dL_law_571 ?_
  refine z_callV (As := [.int (i32 y1), .int (i32 y2), .int (i32 y3)]) (rest := [.int (i32 (fSlow S y1 y2 y3).1)]) (n := 3) E X (lM_0 (layC cA a2 G2 (fSlow S y1 y2 y3).2) cA am S U) rfl (M_slowness l D cA s.heap.size (layC cA a2 G2 (fSlow S y1 y2 y3).2) am S U hI hC y1 y2 y3 r1 r2 r3) gL_law_X6_slowness rfl (by decide +kernel) ⟨by decide, by decide⟩ rfl hl.1 rfl (Nat.le_of_ble_eq_true rfl) dL_law_572 ⟨Nat.le_trans (by show cells + 0 ≤ cells + 2; omega) hc, Nat.le_trans (by show slots + 0 ≤ slots + 1586; omega) hs⟩ X.1 cells slots ⟨rfl, rfl⟩ (fun v H locs hv hS2 => ?_)
  obtain ⟨rfl, U2, hC2, hw⟩ := hv
  refine lv_icmp_eq (tgt := 1247) E.1 E.2.1 dL_law_575 (by decide) (fun _ => ?_) (fun h => absurd rfl h)
  refine W.widen (k := cells + 2) (n := slots + 1586) (by omega) (by omega) ?_
  exact kk a2 am G2 (fSlow S y1 y2 y3).2 U2 H locs ls ⟨hw, hS2⟩ (SI_fSlow hI) hG2 hC2 ha2 rfl hl
