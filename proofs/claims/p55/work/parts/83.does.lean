/-! a change in the class and in the model -/
/-- the number of a refusal in the model, by the class's code -/
def zErr (w c : Nat) : Nat := match w with
  | 0 => c - 1
  | 2 => if c = 4 then 2 else c
  | 4 => if c = 3 then 2 else c
  | 5 => if c = 3 then 2 else c
  | 8 => 1
  | _ => c
section DO
variable {A B : zS} {n t x y : Nat}
theorem tie_add0 (hz : n ≤ 12) (h : ¬ zrAdd n x y = 0) : mAdds B n x y = mFl B (zErr 0 (zrAdd n x y)) := by
  unfold zrAdd at h ⊢
  unfold mAdds
  by_cases h1 : x < 4 ∧ y ≤ 9
  · rw [if_pos h1] at h ⊢
    rw [if_pos h1]
    by_cases h2 : n < 12
    · rw [if_pos h2] at h; exact absurd rfl h
    · rw [if_neg h2, if_pos (by omega)]; rfl
  · rw [if_neg h1, if_neg h1]; rfl
theorem tie_join0 (T : zTie A 25 (B 13)) (hz : n ≤ 12) (h : ¬ zrJoin A n x y = 0) : mJoins B n x y = mFl B (zErr 1 (zrJoin A n x y)) := by
  unfold zrJoin at h ⊢
  unfold mJoins
  by_cases h1 : x < n ∧ y < n
  · rw [if_pos h1] at h ⊢
    rw [if_pos h1, (T.e (e := x) (by omega)).2.2]
    by_cases h2 : x = y
    · rw [if_pos h2, if_pos h2]; rfl
    · rw [if_neg h2] at h ⊢
      rw [if_neg h2]
      by_cases h3 : (A 27 x).testBit y = true
      · rw [if_pos h3, if_pos h3]; rfl
      · rw [if_neg h3] at h; exact absurd rfl h
  · rw [if_neg h1, if_neg h1]; rfl
theorem tie_cut0 (T : zTie A 25 (B 13)) (hz : n ≤ 12) (h : ¬ zrCut A n x y = 0) : mCuts B n x y = mFl B (zErr 2 (zrCut A n x y)) := by
  unfold zrCut at h ⊢
  unfold mCuts
  by_cases h1 : x < n ∧ y < n
  · rw [if_pos h1] at h ⊢
    rw [if_pos h1, (T.e (e := x) (by omega)).2.2]
    by_cases h3 : (A 27 x).testBit y = true
    · rw [if_pos h3] at h; exact absurd rfl h
    · rw [if_neg h3, if_neg h3]; rfl
  · rw [if_neg h1, if_neg h1]; rfl
theorem tie_move0 (T : zTie A 25 (B 13)) (hz : n ≤ 12) (h : ¬ zrMove A n x y = 0) : mMoves B n x y = mFl B (zErr 7 (zrMove A n x y)) := by
  unfold zrMove at h ⊢
  unfold mMoves
  by_cases h1 : x < n
  · rw [if_pos h1] at h ⊢
    rw [if_pos h1, (T.e (e := x) (by omega)).1]
    by_cases h2 : y < 4
    · rw [if_pos h2] at h ⊢
      rw [if_pos h2]
      by_cases h3 : A 30 x = y
      · rw [if_pos h3, if_pos h3]; rfl
      · rw [if_neg h3] at h; exact absurd rfl h
    · rw [if_neg h2, if_neg h2]; rfl
  · rw [if_neg h1, if_neg h1]; rfl
theorem tie_start0 (ht4 : t ≤ 4) (h : ¬ zrStart n t x y = 0) : mStarts B n t x y = mFl B (zErr 3 (zrStart n t x y)) := by
  unfold zrStart at h ⊢
  unfold mStarts
  by_cases h1 : x < n
  · rw [if_pos h1] at h ⊢
    rw [if_pos h1]
    by_cases h2 : y ≤ 9
    · rw [if_pos h2] at h ⊢
      rw [if_pos h2]
      by_cases h3 : t < 4
      · rw [if_pos h3] at h; exact absurd rfl h
      · rw [if_neg h3, if_pos (by omega)]; rfl
    · rw [if_neg h2, if_neg h2]; rfl
  · rw [if_neg h1, if_neg h1]; rfl
theorem tie_conv0 (T : zTie A 25 (B 13)) (ht4 : t ≤ 4) (h : ¬ zrConv A n t x y = 0) : mChecks B n t x y = mFl B (zErr 4 (zrConv A n t x y)) := by
  unfold zrConv at h ⊢
  unfold mChecks
  by_cases h1 : x < t ∧ y < n
  · rw [if_pos h1] at h ⊢
    rw [if_pos h1, (T.r (r := x) (by omega)).2.2.2.1]
    by_cases h3 : (A (33 + 2 * x) 3).testBit y = true
    · rw [if_pos h3] at h; exact absurd rfl h
    · rw [if_neg h3, if_neg h3]; rfl
  · rw [if_neg h1, if_neg h1]; rfl
theorem tie_sil0 (T : zTie A 25 (B 13)) (ht : A 25 4 = t) (ht4 : t ≤ 4) (h : ¬ zrSil A t x = 0) : mDenies B t x = mFl B (zErr 5 (zrSil A t x)) := by
  unfold zrSil at h ⊢
  unfold mDenies
  by_cases h1 : x < t
  · rw [if_pos h1] at h ⊢
    rw [if_pos h1]
    have hd := (T.r (r := x) (by omega)).2.1 (by omega)
    by_cases h3 : A (33 + 2 * x) 2 = 0
    · rw [if_pos h3, if_pos (by omega)]; rfl
    · rw [if_neg h3] at h; exact absurd rfl h
  · rw [if_neg h1, if_neg h1]; rfl
theorem tie_rev0 (T : zTie A 25 (B 13)) (ht : A 25 4 = t) (ht4 : t ≤ 4) (h : ¬ zrRev A t x y = 0) : mAnswers B t x y = mFl B (zErr 6 (zrRev A t x y)) := by
  unfold zrRev at h ⊢
  unfold mAnswers
  by_cases h1 : x < t
  · rw [if_pos h1] at h ⊢
    rw [if_pos h1]
    have hd := (T.r (r := x) (by omega)).2.1 (by omega)
    by_cases h2 : y ≤ 9
    · rw [if_pos h2] at h ⊢
      rw [if_pos h2]
      by_cases h3 : A (33 + 2 * x) 2 = 0
      · rw [if_pos h3] at h; exact absurd rfl h
      · rw [if_neg h3, if_pos (by omega)]; rfl
    · rw [if_neg h2, if_neg h2]; rfl
  · rw [if_neg h1, if_neg h1]; rfl
/-- a refused change -/
theorem tie_no (T : zTie A 25 (B 13)) (G : zGd A 25) (hn : A 26 0 = n) (ht : A 25 4 = t) {k : Nat} (h : ¬ zRef A n t k x y = 0) : mDoes B n t (min k 8) x y = mFl B (zErr (min k 8) (zRef A n t k x y)) := by
  have hz : n ≤ 12 := hn ▸ G.1
  have ht4 : t ≤ 4 := ht ▸ G.2.1
  match k with
  | 0 => exact tie_add0 hz h
  | 1 => exact tie_join0 T hz h
  | 2 => exact tie_cut0 T hz h
  | 3 => exact tie_start0 ht4 h
  | 4 => exact tie_conv0 T ht4 h
  | 5 => exact tie_sil0 T ht ht4 h
  | 6 => exact tie_rev0 T ht ht4 h
  | 7 => exact tie_move0 T hz h
  | k + 8 =>
    have e : min (k + 8) 8 = 8 := by omega
    rw [e]
    have h2 : ¬ (1 ≤ x ∧ x ≤ 20) := fun hc => h (show (if 1 ≤ x ∧ x ≤ 20 then 0 else 2) = 0 from if_pos hc)
    show mPasses B n t x = mFl B 1
    unfold mPasses
    rw [if_neg h2]
/-! good scenes under the changes -/
theorem zGd.put30 (G : zGd A 25) {e v : Nat} (hv : v < 4) : zGd (zU A 30 e v) 25 := by
  obtain ⟨a0, a1, a2, a3, a4, a5, a6⟩ := G
  refine ⟨a0, a1, fun q hq => ⟨(a2 q hq).1, ?_, (a2 q hq).2.2⟩, a3, a4, fun r hr => zRb.same (a5 r hr) (fun j => zU_o (by omega)), fun r hr => ?_⟩
  · show zU A 30 e v 30 q < 4
    by_cases h : q = e
    · subst h; rw [zU_s]; exact hv
    · rw [zU_j h]; exact (a2 q hq).2.1
  · rw [zU_o (by omega), zU_o (by omega)]; exact a6 r hr
theorem zGd.put31 (G : zGd A 25) {e v : Nat} (hv : v ≤ 9) : zGd (zU A 31 e v) 25 := by
  obtain ⟨a0, a1, a2, a3, a4, a5, a6⟩ := G
  refine ⟨a0, a1, fun q hq => ⟨(a2 q hq).1, (a2 q hq).2.1, ?_⟩, a3, a4, fun r hr => zRb.same (a5 r hr) (fun j => zU_o (by omega)), fun r hr => ?_⟩
  · show zU A 31 e v 31 q ≤ 9
    by_cases h : q = e
    · subst h; rw [zU_s]; exact hv
    · rw [zU_j h]; exact (a2 q hq).2.2
  · rw [zU_o (by omega), zU_o (by omega)]; exact a6 r hr
theorem zGd.putN (G : zGd A 25) (hn : A 26 0 = n) (h : n < 12) : zGd (zU A 26 0 (n + 1)) 25 := by
  obtain ⟨a0, a1, a2, a3, a4, a5, a6⟩ := G
  refine ⟨?_, a1, a2, fun e k he hk => ?_, a4, fun r hr => zRb.same (a5 r hr) (fun j => zU_o (by omega)), fun r hr => ?_⟩
  · show zU A 26 0 (n + 1) 26 0 ≤ 12; rw [zU_s]; exact h
  · have g := a3 e k he hk
    have g0 : e < A 26 0 ∧ k < A 26 0 := ⟨g.1, g.2.1⟩
    show e < zU A 26 0 (n + 1) 26 0 ∧ k < zU A 26 0 (n + 1) 26 0 ∧ _
    rw [zU_s]; exact ⟨by omega, by omega, g.2.2⟩
  · rw [zU_o (by omega), zU_o (by omega)]
    have g := a6 r hr
    refine ⟨g.1, fun k hk => ?_⟩
    have := g.2 k hk
    show k < zU A 26 0 (n + 1) 26 0
    rw [zU_s]
    have this : k < A 26 0 := this
    omega
/-- a rumour's field 0, or its rounds -/
theorem zGd.putF (G : zGd A 25) {r a b v : Nat} (h : (a = 33 + 2 * r ∧ b = 0) ∨ a = 33 + 2 * r + 1) (hr : r < 4) : zGd (zU A a b v) 25 := by
  have e : ∀ a' b', (a' = 26 ∨ a' = 25 ∨ a' = 27 ∨ a' = 30 ∨ a' = 31) → zU A a b v a' b' = A a' b' := fun a' b' h' => zU_o (by omega)
  have e2 : ∀ q j, 1 ≤ j → zU A a b v (33 + 2 * q) j = A (33 + 2 * q) j := fun q j hj => by
    rcases h with h | h
    · rw [h.2]; exact zU_j (by omega)
    · exact zU_o (by omega)
  obtain ⟨a0, a1, a2, a3, a4, a5, a6⟩ := G
  refine ⟨by rw [e 26 0 (by decide)]; exact a0, by rw [e 25 4 (by decide)]; exact a1, fun q hq => ?_, fun q k hq hk => ?_, ?_, fun q hq => ?_, fun q hq => ?_⟩
  · rw [e 27 q (by decide), e 30 q (by decide), e 31 q (by decide)]; exact a2 q hq
  · rw [e 27 q (by decide)] at hk
    rw [e 26 0 (by decide), e 27 k (by decide)]; exact a3 q k hq hk
  · rw [e 26 1 (by decide), show (fun q s => s + zpop (zU A a b v (25 + 2) q)) = (fun q s => s + zpop (A 27 q)) from funext (fun q => by rw [e 27 q (by decide)])]; exact a4
  · obtain ⟨b1, b2, b3, b4⟩ := a5 q hq
    have f := e2 q
    exact ⟨by rw [show 25 + 8 + 2 * q = 33 + 2 * q from by omega, f 1 (by decide)]; exact b1, by rw [show 25 + 8 + 2 * q = 33 + 2 * q from by omega, f 2 (by decide)]; exact b2, by rw [show 25 + 8 + 2 * q = 33 + 2 * q from by omega, f 3 (by decide)]; exact b3, by rw [show 25 + 8 + 2 * q = 33 + 2 * q from by omega, f 4 (by decide)]; exact b4⟩
  · rw [e 25 4 (by decide)] at hq
    rw [e 26 0 (by decide), show 25 + 8 + 2 * q = 33 + 2 * q from by omega, e2 q 3 (by decide), e2 q 4 (by decide)]; exact a6 q hq
/-- a rumour's strength or life -/
theorem zGd.putS (G : zGd A 25) {r j v : Nat} (hr : r < 4) (h : (j = 1 ∧ v ≤ 9) ∨ (j = 2 ∧ v ≤ 1)) : zGd (zU A (33 + 2 * r) j v) 25 := by
  obtain ⟨a0, a1, a2, a3, a4, a5, a6⟩ := G
  have e : ∀ a' b', a' < 33 → zU A (33 + 2 * r) j v a' b' = A a' b' := fun a' b' h' => zU_o (by omega)
  refine ⟨by rw [e _ _ (by decide)]; exact a0, by rw [e _ _ (by decide)]; exact a1, fun q hq => ?_, fun q k hq hk => ?_, ?_, fun q hq => ?_, fun q hq => ?_⟩
  · rw [e _ _ (by decide), e _ _ (by decide), e _ _ (by decide)]; exact a2 q hq
  · rw [e _ _ (by decide)] at hk
    rw [e _ _ (by decide), e _ _ (by decide)]; exact a3 q k hq hk
  · rw [e _ _ (by decide), show (fun q s => s + zpop (zU A (33 + 2 * r) j v (25 + 2) q)) = (fun q s => s + zpop (A 27 q)) from funext (fun q => by rw [e _ _ (by decide)])]; exact a4
  · exact zRbU (a5 q hq) (fun h1 => by omega) (fun h1 => by omega) (fun h1 => by omega) (fun h1 => by omega)
  · rw [e 25 4 (by decide)] at hq
    have f : ∀ i, 3 ≤ i → zU A (33 + 2 * r) j v (25 + 8 + 2 * q) i = A (25 + 8 + 2 * q) i := fun i hi => zU_j (by omega)
    rw [e (25 + 1) 0 (by decide), f 3 (by decide), f 4 (by decide)]; exact a6 q hq
end DO
