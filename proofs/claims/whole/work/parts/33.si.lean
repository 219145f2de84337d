/-! each call keeps the state's invariant -/
theorem alln_at {f : Nat → Bool} {n : Nat} (h : alln f n = true) {k : Nat} (hk : k < n) : f k = true := by
  cases hf : f k with
  | true => rfl
  | false =>
    rw [alln_no hf hk] at h
    cases h
theorem SI_find {S : zS} {z : Int} (hI : SI S) : SI (fFind S z).2 := hI
theorem SI_17 {T : zS} {z : Int} (hI : SI T) (hz : 0 ≤ z ∧ z ≤ 1) : SI (zs T 17 0 z) := by
  obtain ⟨h0, h1, h2, h3, h4, h5⟩ := hI
  unfold SI0 at h0
  obtain ⟨b1, b2, b3, b4, b5, b8, b17, b19, b7⟩ := h0
  exact ⟨⟨b1, b2, b3, b4, b5, b8, hz, b19, b7⟩, h1, h2, h3, h4, h5⟩
theorem SI_fBody {S : zS} {w p u v : Int} (hI : SI S) : SI (fBody S w p u v).2 := by
  unfold fBody
  split
  · exact hI
  · rename_i h
    split
    · rename_i hal
      obtain ⟨h0, h1, h2, h3, h4, h5⟩ := hI
      have hc : (0 ≤ w ∧ w ≤ 20) ∧ (1 ≤ p ∧ p ≤ 30) ∧ (1 ≤ u ∧ u ≤ 8) ∧ (1 ≤ v ∧ v ≤ 8) := Classical.not_not.mp h
      unfold SI0 at h0
      obtain ⟨b1, b2, b3, b4, b5, b8, b17, b19, b7⟩ := h0
      refine ⟨⟨hc.1, hc.2.1, hc.2.2.1, hc.2.2.2, b5, b8, (⟨Int.le_refl 0, by decide⟩ : (0 : Int) ≤ 0 ∧ (0 : Int) ≤ 1), b19, b7⟩, h1, fun j hj => ?_, h3, h4, h5⟩
      have hj : (j : Int) < S 8 0 := hj
      obtain ⟨t1, t2, t3, t4⟩ := h2 j hj
      have hf : S 9 j = 2 ∨ (w ≤ S 12 j ∧ S 12 j ≤ w + p) := of_decide_eq_true (alln_at hal (show j < (S 8 0).toNat by omega))
      exact ⟨t1, t2, fun h9 => hf.resolve_left h9, t4⟩
    · exact hI
theorem SI_fElement {S : zS} {x : Int} (hI : SI S) : SI (fElement S x).2 := by
  unfold fElement
  split
  · exact hI
  · rename_i hx
    split
    · exact hI
    · rename_i h8
      obtain ⟨h0, h1, h2, h3, h4, h5⟩ := hI
      unfold SI0 at h0
      obtain ⟨b1, b2, b3, b4, b5, b8, b17, b19, b7⟩ := h0
      obtain ⟨n, hn⟩ : ∃ n : Nat, (S 5 0).toNat = n := ⟨_, rfl⟩
      rw [hn]
      refine ⟨⟨b1, b2, b3, b4, ?_, b8, (⟨Int.le_refl 0, by decide⟩ : (0 : Int) ≤ 0 ∧ (0 : Int) ≤ 1), b19, fun j => ?_⟩, fun j hj => ?_, h2, fun j hj => ?_, h4, h5⟩
      · show 0 ≤ S 5 0 + 1 ∧ S 5 0 + 1 ≤ 8
        omega
      · show 0 ≤ zg (S 7) n 0 j ∧ zg (S 7) n 0 j ≤ 1
        unfold zg
        split
        · omega
        · exact b7 j
      · have hj : (j : Int) < S 5 0 + 1 := hj
        show 0 ≤ zg (S 6) n x j ∧ zg (S 6) n x j ≤ 50
        unfold zg
        split
        · omega
        · exact h1 j (by omega)
      · obtain ⟨t1, t2, t3⟩ := h3 j hj
        exact ⟨⟨t1.1, show S 20 j < S 5 0 + 1 by omega⟩, ⟨t2.1, show S 21 j < S 5 0 + 1 by omega⟩, t3⟩
theorem SI_fLose {S : zS} {q lost : Int} (hI : SI S) (hl : lost = 0 ∨ lost = 1) : SI (fLose S q lost).2 := by
  unfold fLose
  split
  · exact hI
  · exact ⟨SI0_lose hI.1 hl, hI.2.1, hI.2.2.1, hI.2.2.2.1, hI.2.2.2.2.1, hI.2.2.2.2.2⟩
theorem SI_fTarget {S : zS} {k x z y st : Int} (hI : SI S) : SI (fTarget S k x z y st).2 := by
  unfold fTarget
  split
  · exact hI
  · rename_i h
    split
    · exact hI
    · rename_i h8
      have hc : (0 ≤ k ∧ k ≤ 2) ∧ (k < 2 → 0 ≤ x ∧ x ≤ 50 ∧ S 1 0 ≤ y ∧ y ≤ S 1 0 + S 2 0) ∧ (k = 1 → x ≤ z ∧ z ≤ 50) ∧ (-1000 ≤ st ∧ st ≤ 1000) := Classical.not_not.mp h
      obtain ⟨c1, c2, c3, c4⟩ := hc
      have hXZ : 0 ≤ (if k = 2 then 0 else x) ∧ (if k = 2 then 0 else x) ≤ (if k = 2 then 50 else if k = 1 then z else x) ∧ (if k = 2 then 50 else if k = 1 then z else x) ≤ 50 := by
        by_cases e2 : k = 2
        · rw [if_pos e2, if_pos e2]
          omega
        · have := c2 (by omega)
          rw [if_neg e2, if_neg e2]
          by_cases e1 : k = 1
          · have := c3 e1
            rw [if_pos e1]
            omega
          · rw [if_neg e1]
            omega
      generalize (if k = 2 then 0 else x) = X at hXZ ⊢
      generalize (if k = 2 then 50 else if k = 1 then z else x) = Z at hXZ ⊢
      obtain ⟨h0, h1, h2, h3, h4, h5⟩ := hI
      unfold SI0 at h0
      obtain ⟨b1, b2, b3, b4, b5, b8, b17, b19, b7⟩ := h0
      obtain ⟨n, hn⟩ : ∃ n : Nat, (S 8 0).toNat = n := ⟨_, rfl⟩
      rw [hn]
      refine ⟨⟨b1, b2, b3, b4, b5, ?_, b17, b19, b7⟩, h1, fun j hj => ?_, h3, h4, h5⟩
      · show 0 ≤ S 8 0 + 1 ∧ S 8 0 + 1 ≤ 8
        omega
      · have hj : (j : Int) < S 8 0 + 1 := hj
        show (0 ≤ zg (S 9) n k j ∧ zg (S 9) n k j ≤ 2) ∧ (0 ≤ zg (S 10) n X j ∧ zg (S 10) n X j ≤ zg (S 11) n Z j ∧ zg (S 11) n Z j ≤ 50) ∧ (zg (S 9) n k j ≠ 2 → S 1 0 ≤ zg (S 12) n y j ∧ zg (S 12) n y j ≤ S 1 0 + S 2 0) ∧ (-1000 ≤ zg (S 13) n st j ∧ zg (S 13) n st j ≤ 1000)
        by_cases e : j = n
        · subst e
          rw [zg_eq, zg_eq, zg_eq, zg_eq, zg_eq]
          exact ⟨c1, hXZ, fun h9 => (c2 (by omega)).2.2, c4⟩
        · rw [zg_ne e, zg_ne e, zg_ne e, zg_ne e, zg_ne e]
          exact h2 j (by omega)
theorem SI_fDrop {S : zS} (hI : SI S) : SI (fDrop S).2 := by
  unfold fDrop
  split
  · exact hI
  · rename_i h8
    obtain ⟨h0, h1, h2, h3, h4, h5⟩ := hI
    unfold SI0 at h0
    obtain ⟨b1, b2, b3, b4, b5, b8, b17, b19, b7⟩ := h0
    refine ⟨⟨b1, b2, b3, b4, b5, ?_, b17, b19, b7⟩, h1, fun j hj => h2 j ?_, h3, h4, h5⟩
    · show 0 ≤ S 8 0 - 1 ∧ S 8 0 - 1 ≤ 8
      omega
    · have hj : (j : Int) < S 8 0 - 1 := hj
      omega
theorem SI_fTaken {S : zS} {t k w : Int} (hI : SI S) : SI (fTaken S t k w).2 := by
  unfold fTaken fFind
  repeat' split
  all_goals exact hI
theorem SI_fTime {S : zS} {q x y : Int} (hI : SI S) : SI (fTime S q x y).2 := by
  unfold fTime
  repeat' split
  all_goals exact hI
theorem SI_fBend {S : zS} {q x y : Int} (hI : SI S) : SI (fBend S q x y).2 := by
  unfold fBend
  repeat' split
  all_goals exact hI
theorem SI_fEchoTime {S : zS} {q x y : Int} (hI : SI S) : SI (fEchoTime S q x y).2 := by
  unfold fEchoTime
  repeat' split
  all_goals exact hI
theorem SI_fSlow {S : zS} {q x y : Int} (hI : SI S) : SI (fSlow S q x y).2 := by
  unfold fSlow
  repeat' split
  all_goals exact hI
theorem SI_fEcho {S : zS} {q x y : Int} (hI : SI S) : SI (fEcho S q x y).2 := by
  unfold fEcho
  repeat' split
  all_goals exact hI
theorem SI_fGate {S : zS} {q r x y z : Int} (hI : SI S) : SI (fGate S q r x y z).2 := by
  unfold fGate
  repeat' split
  all_goals exact hI
theorem SI_fFocus {S : zS} {x y : Int} (hI : SI S) : SI (fFocus S x y).2 := by
  unfold fFocus
  split
  · exact hI
  · rename_i h
    split
    · exact hI
    · have hc : 0 ≤ x ∧ x ≤ 50 ∧ S 1 0 ≤ y ∧ y ≤ S 1 0 + S 2 0 := Classical.not_not.mp h
      have h0 := hI.1
      unfold SI0 at h0
      have hm := mst_rng (S := S) (x := x.toNat) (y := y.toNat) hI (by omega) (by omega) (S 5 0).toNat (by omega)
      exact SI_17 (SI_dly hI (by omega) (by omega) hm (by omega)) ⟨by decide, by decide⟩
theorem SI_fDelay {S : zS} {q : Int} (hI : SI S) : SI (fDelay S q).2 := by
  unfold fDelay
  repeat' split
  all_goals exact hI
theorem SI_fHeard {S : zS} {q t : Int} (hI : SI S) : SI (fHeard S q t).2 := by
  unfold fHeard
  repeat' split
  all_goals exact hI
theorem SI_fSum {S : zS} {q : Int} (hI : SI S) : SI (fSum S q).2 := by
  unfold fSum
  repeat' split
  all_goals exact hI
theorem SI_fBoard {S : zS} {x y : Int} (hI : SI S) : SI (fBoard S x y).2 := by
  unfold fBoard
  repeat' split
  all_goals exact hI
theorem SI_fTell {S : zS} {q r tick : Int} (hI : SI S) : SI (fTell S q r tick).2 := by
  unfold fTell
  split
  · exact hI
  · rename_i h
    split
    · exact hI
    · rename_i ht
      split
      · exact hI
      · rename_i h6
        have hc : (0 ≤ q ∧ q < S 5 0) ∧ (0 ≤ r ∧ r < S 5 0) := Classical.not_not.mp h
        obtain ⟨h0, h1, h2, h3, h4, h5⟩ := hI
        unfold SI0 at h0
        obtain ⟨b1, b2, b3, b4, b5, b8, b17, b19, b7⟩ := h0
        obtain ⟨n, hn⟩ : ∃ n : Nat, (S 19 0).toNat = n := ⟨_, rfl⟩
        rw [hn]
        refine ⟨⟨b1, b2, b3, b4, b5, b8, b17, ?_, b7⟩, h1, h2, fun j hj => ?_, h4, h5⟩
        · show 0 ≤ S 19 0 + 1 ∧ S 19 0 + 1 ≤ 6
          omega
        · have hj : (j : Int) < S 19 0 + 1 := hj
          show (0 ≤ zg (S 20) n q j ∧ zg (S 20) n q j < S 5 0) ∧ (0 ≤ zg (S 21) n r j ∧ zg (S 21) n r j < S 5 0) ∧ (0 ≤ zg (S 22) n tick j ∧ zg (S 22) n tick j ≤ 4000)
          by_cases e : j = n
          · subst e
            rw [zg_eq, zg_eq, zg_eq]
            exact ⟨hc.1, hc.2, by omega⟩
          · rw [zg_ne e, zg_ne e, zg_ne e]
            exact h3 j (by omega)
theorem SI_fForget {S : zS} (hI : SI S) : SI (fForget S).2 := by
  obtain ⟨h0, h1, h2, h3, h4, h5⟩ := hI
  unfold SI0 at h0
  obtain ⟨b1, b2, b3, b4, b5, b8, b17, b19, b7⟩ := h0
  refine ⟨⟨b1, b2, b3, b4, b5, b8, b17, (⟨Int.le_refl 0, by decide⟩ : (0 : Int) ≤ 0 ∧ (0 : Int) ≤ 6), b7⟩, h1, h2, fun j hj => ?_, h4, h5⟩
  have hj : (j : Int) < 0 := hj
  omega
theorem SI_fPlaces {S : zS} {q : Int} (hI : SI S) : SI (fPlaces S q).2 := by
  unfold fPlaces
  repeat' split
  all_goals exact hI
theorem SI_fPlace {S : zS} {q i : Int} (hI : SI S) : SI (fPlace S q i).2 := by
  unfold fPlace
  repeat' split
  all_goals exact hI
theorem SI_sh {S : zS} {q : Nat} {k n : Int} (hI : SI S) (hk : 0 ≤ k ∧ k ≤ 2) (hn : -1 ≤ n ∧ n ≤ 64) : SI (zs (zs S 23 q n) 24 q k) := by
  obtain ⟨h0, h1, h2, h3, h4, h5⟩ := hI
  refine ⟨h0, h1, h2, h3, ⟨fun j hj => ?_, h4.2⟩, h5⟩
  show (-1 ≤ zg (S 23) q n j ∧ zg (S 23) q n j ≤ 64) ∧ (0 ≤ zg (S 24) q k j ∧ zg (S 24) q k j ≤ 2)
  by_cases e : j = q
  · subst e
    rw [zg_eq, zg_eq]
    exact ⟨hn, hk⟩
  · rw [zg_ne e, zg_ne e]
    exact h4.1 j hj
theorem SI_fSheet {S : zS} {q k n : Int} (hI : SI S) : SI (fSheet S q k n).2 := by
  unfold fSheet
  split
  · exact hI
  · split
    · exact hI
    · rename_i hk
      split
      · exact hI
      · have h1 : SI (zs (zs S 23 q.toNat n) 24 q.toNat k) := SI_sh hI (by omega) (by omega)
        exact SI_25 h1 (fun k hk => zro_k hk _) (zro_zr h1.2.2.2.2.1.2 _)
theorem SI_fTear {S : zS} {q : Int} (hI : SI S) : SI (fTear S q).2 := by
  unfold fTear
  split
  · exact hI
  · obtain ⟨h0, h1, h2, h3, h4, h5⟩ := hI
    refine ⟨h0, h1, h2, h3, ⟨fun j hj => ?_, h4.2⟩, h5⟩
    show (-1 ≤ zg (S 23) q.toNat (-1) j ∧ zg (S 23) q.toNat (-1) j ≤ 64) ∧ (0 ≤ S 24 j ∧ S 24 j ≤ 2)
    have := h4.1 j hj
    unfold zg
    split <;> omega
theorem SI_fRecord {S : zS} {q a b f : Int} (hI : SI S) : SI (fRecord S q a b f).2 := by
  unfold fRecord
  split
  · exact hI
  · split
    · exact hI
    · split
      · exact hI
      · exact SI_25 hI (fun k hk => rcd_k hk _) (rcd_zr hI.2.2.2.2.1.2 _)
theorem SI_fAdd {S : zS} {q r sh : Int} (hI : SI S) : SI (fAdd S q r sh).2 := by
  unfold fAdd
  split
  · exact hI
  · split
    · exact hI
    · exact SI_25 hI (fun k hk => ads_k hk _) (ads_zr hI.2.2.2.2.1.2 _)
theorem SI_fCopy {S : zS} {q i r j n : Int} (hI : SI S) : SI (fCopy S q i r j n).2 := by
  unfold fCopy
  split
  · exact hI
  · split
    · exact hI
    · split
      · exact hI
      · split
        · exact hI
        · split
          · exact hI
          · exact SI_25 hI (fun k hk => cps_k hk _) (cps_zr hI.2.2.2.2.1.2 _)
theorem SI_fAt {S : zS} {q i : Int} (hI : SI S) : SI (fAt S q i).2 := by
  unfold fAt fFind
  repeat' split
  all_goals exact hI
theorem SI_fPeak {S : zS} {q : Int} (hI : SI S) : SI (fPeak S q).2 := by
  unfold fPeak fFind
  repeat' split
  all_goals exact hI
theorem SI_fTotal {S : zS} {q : Int} (hI : SI S) : SI (fTotal S q).2 := hI
