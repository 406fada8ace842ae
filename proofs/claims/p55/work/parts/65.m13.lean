/-! what the model's commands keep -/
theorem mNow.put {S : zS} {n t k v : Nat} (h : mNow S n t) (hk : 2 ≤ k) (hh : 5 ≤ k → k < 17 → v < 4) (hd : 17 ≤ k → k < 29 → v ≤ 9) (hl : 29 ≤ k → k < 41 → v < 4096) (hr : ∀ r, r < 4 → (k = 41 + 5 * r + 0 → v ≤ 9) ∧ (k = 41 + 5 * r + 1 → v ≤ 1) ∧ (k = 41 + 5 * r + 3 → v < 4096) ∧ (k = 41 + 5 * r + 4 → v < 4096)) : mNow (zU S 13 k v) n t := by
  obtain ⟨hn, hz, ht, ht4, hls, hrs⟩ := h
  have at' : ∀ b, zU S 13 k v 13 b = if b = k then v else S 13 b := fun b => by unfold zU; by_cases h : b = k <;> simp [h]
  refine ⟨(zU_j (by omega)).trans hn, hz, (zU_j (by omega)).trans ht, ht4, fun e he => ?_, fun r hrr => ?_⟩
  · obtain ⟨a1, a2, a3⟩ := hls e he
    rw [at', at', at']
    refine ⟨?_, ?_, ?_⟩ <;> (split <;> first | assumption | (apply_assumption; omega; omega) | omega)
  · obtain ⟨a1, a2, a3, a4⟩ := hrs r hrr
    obtain ⟨b1, b2, b3, b4⟩ := hr r hrr
    rw [at', at', at', at']
    refine ⟨?_, ?_, ?_, ?_⟩ <;> (split <;> first | assumption | (rename_i hc; first | exact b1 hc.symm | exact b2 hc.symm | exact b3 hc.symm | exact b4 hc.symm))
theorem mNow.n1 {S : zS} {n t : Nat} (h : mNow S n t) (hn : n < 12) : mNow (zU S 13 0 (n + 1)) (n + 1) t := by
  obtain ⟨h0, hz, ht, ht4, hls, hrs⟩ := h
  refine ⟨zU_s, hn, (zU_j (by decide)).trans ht, ht4, fun e he => ?_, fun r hr => ?_⟩
  · rw [zU_j (by omega), zU_j (by omega), zU_j (by omega)]; exact hls e he
  · rw [zU_j (by omega), zU_j (by omega), zU_j (by omega), zU_j (by omega)]; exact hrs r hr
theorem mNow.t1 {S : zS} {n t : Nat} (h : mNow S n t) (ht1 : t < 4) : mNow (zU S 13 1 (t + 1)) n (t + 1) := by
  obtain ⟨h0, hz, ht, ht4, hls, hrs⟩ := h
  refine ⟨(zU_j (by decide)).trans h0, hz, zU_s, ht1, fun e he => ?_, fun r hr => ?_⟩
  · rw [zU_j (by omega), zU_j (by omega), zU_j (by omega)]; exact hls e he
  · rw [zU_j (by omega), zU_j (by omega), zU_j (by omega), zU_j (by omega)]; exact hrs r hr
theorem mNow.fl {S : zS} {n t k : Nat} (h : mNow S n t) : mNow (mFl S k).2 n t := mNow_row (fun b _ => show zU S 12 0 k 13 b = S 13 b from zU_o (by decide)) h
def mNw (S : zS) : Prop := mNow S (S 13 0) (S 13 1)
theorem mNow.nw {S : zS} {n t : Nat} (h : mNow S n t) : mNw S := by
  have h0 := h.1
  have h1 := h.2.2.1
  unfold mNw
  rw [h0, h1]; exact h
theorem mDoes_nw {S : zS} {n t w x y : Nat} (h : mNow S n t) : mNw (mDoes S n t w x y).2 := by
  obtain ⟨hn, hz, ht, ht4, hls, hrs⟩ := id h
  unfold mDoes
  split
  · unfold mAdds
    split
    · split
      · exact h.fl.nw
      · exact (mNow.n1 ((h.put (by omega) (by omega) (by omega) (by omega) (fun r _ => by omega)).put (by omega) (by omega) (by omega) (by omega) (fun r _ => by omega)) (by omega)).nw
    · exact h.fl.nw
  · unfold mJoins
    split
    · split
      · exact h.fl.nw
      · split
        · exact h.fl.nw
        · have hl := mTurn_lt (S := S) (x := x) (y := y) (fun e he => (hls e he).2.2) (by omega) (by omega)
          have h1 : zU S 13 (29 + x) (S 13 (29 + x) ^^^ 1 * 2 ^ y) 13 (29 + x) < 4096 := by rw [zU_s]; exact zXor_lt (hls x (by omega)).2.2 (by omega)
          exact ((h.put (by omega) (by omega) (by omega) (fun _ _ => zXor_lt (hls x (by omega)).2.2 (by omega)) (fun r _ => by omega)).put (by omega) (by omega) (by omega) (fun _ _ => by have := hl y (by omega); unfold mTurn at this; rw [zU_s] at this; exact this) (fun r _ => by omega)).nw
    · exact h.fl.nw
  · unfold mCuts
    split
    · split
      · have hl := mTurn_lt (S := S) (x := x) (y := y) (fun e he => (hls e he).2.2) (by omega) (by omega)
        exact ((h.put (by omega) (by omega) (by omega) (fun _ _ => zXor_lt (hls x (by omega)).2.2 (by omega)) (fun r _ => by omega)).put (by omega) (by omega) (by omega) (fun _ _ => by have := hl y (by omega); unfold mTurn at this; rw [zU_s] at this; exact this) (fun r _ => by omega)).nw
      · exact h.fl.nw
    · exact h.fl.nw
  · unfold mStarts
    split
    · split
      · split
        · exact h.fl.nw
        · have hb : 1 * 2 ^ x < 4096 := zBit_lt (by omega)
          exact (mNow.t1 ((((((h.put (by omega) (by omega) (by omega) (by omega) (fun r _ => by omega)).put (by omega) (by omega) (by omega) (by omega) (fun r _ => by omega)).put (by omega) (by omega) (by omega) (by omega) (fun r _ => by omega)).put (by omega) (by omega) (by omega) (by omega) (fun r _ => by omega)).put (by omega) (by omega) (by omega) (by omega) (fun r _ => by omega)).put (by omega) (by omega) (by omega) (by omega) (fun r _ => by omega)) (by omega)).nw
      · exact h.fl.nw
    · exact h.fl.nw
  · unfold mChecks
    split
    · split
      · split
        · exact h.nw
        · obtain ⟨r0, r1, r3, r4⟩ := hrs x (by omega)
          have hb : 1 * 2 ^ y < 4096 := zBit_lt (by omega)
          have h3 := zXor_lt (i := y) r3 (by omega)
          have hA := h.put (k := 41 + 5 * x + 3) (v := S 13 (41 + 5 * x + 3) ^^^ 1 * 2 ^ y) (by omega) (by omega) (by omega) (by omega) (fun r _ => by omega)
          have h4 := (hA.2.2.2.2.2 x (by omega)).2.2.2
          have h5 := zOr_lt h4 hb
          have hB := hA.put (k := 41 + 5 * x + 4) (by omega) (by omega) (by omega) (by omega) (fun r _ => ⟨by omega, by omega, by omega, fun _ => h5⟩)
          exact (hB.put (k := 4) (by omega) (by omega) (by omega) (by omega) (fun r _ => by omega)).nw
      · exact h.fl.nw
    · exact h.fl.nw
  · unfold mDenies
    split
    · split
      · exact h.fl.nw
      · exact (h.put (by omega) (by omega) (by omega) (by omega) (fun r _ => by omega)).nw
    · exact h.fl.nw
  · unfold mAnswers
    split
    · split
      · split
        · exact h.fl.nw
        · exact ((h.put (by omega) (by omega) (by omega) (by omega) (fun r _ => by omega)).put (by omega) (by omega) (by omega) (by omega) (fun r _ => by omega)).nw
      · exact h.fl.nw
    · exact h.fl.nw
  · unfold mMoves
    split
    · split
      · split
        · exact h.fl.nw
        · exact (h.put (by omega) (by omega) (by omega) (by omega) (fun r _ => by omega)).nw
      · exact h.fl.nw
    · exact h.fl.nw
  · unfold mPasses
    split
    · exact (mRds_now h).nw
    · exact h.fl.nw
theorem mDoes_o {S : zS} {n t w x y a b : Nat} (ha : a ≠ 13) (hb : a ≠ 12 ∨ b ≠ 0) : (mDoes S n t w x y).2 a b = S a b := by
  have hf : ∀ k, (mFl S k).2 a b = S a b := fun k => by
    show zU S 12 0 k a b = S a b
    rcases hb with hb | hb
    · exact zU_o hb
    · exact zU_j hb
  unfold mDoes
  split
  · unfold mAdds; (repeat' split) <;> first | exact hf _ | (simp only [zU_o ha])
  · unfold mJoins mTurn; (repeat' split) <;> first | exact hf _ | (simp only [zU_o ha])
  · unfold mCuts mTurn; (repeat' split) <;> first | exact hf _ | (simp only [zU_o ha])
  · unfold mStarts; (repeat' split) <;> first | exact hf _ | (simp only [zU_o ha])
  · unfold mChecks mChk; (repeat' split) <;> first | exact hf _ | (simp only [zU_o ha])
  · unfold mDenies; (repeat' split) <;> first | exact hf _ | (simp only [zU_o ha])
  · unfold mAnswers; (repeat' split) <;> first | exact hf _ | (simp only [zU_o ha])
  · unfold mMoves; (repeat' split) <;> first | exact hf _ | (simp only [zU_o ha])
  · unfold mPasses; split
    · exact mRds_o ha
    · exact hf _
/-- a refusal of the model: its number, by the state before -/
theorem mDoes_12 {S : zS} {n t w x y : Nat} (h : S 12 0 ≤ 3) : (mDoes S n t w x y).2 12 0 ≤ 3 := by
  have hf : ∀ k, k ≤ 3 → (mFl S k).2 12 0 ≤ 3 := fun k hk => by show zU S 12 0 k 12 0 ≤ 3; rw [zU_s]; exact hk
  have ho : ∀ (Q : zS) k v, zU Q 13 k v 12 0 = Q 12 0 := fun Q k v => zU_o (by decide)
  unfold mDoes
  split
  · unfold mAdds; (repeat' split) <;> first | exact hf _ (by decide) | (simp only [ho]; exact h)
  · unfold mJoins mTurn; (repeat' split) <;> first | exact hf _ (by decide) | (simp only [ho]; exact h)
  · unfold mCuts mTurn; (repeat' split) <;> first | exact hf _ (by decide) | (simp only [ho]; exact h)
  · unfold mStarts; (repeat' split) <;> first | exact hf _ (by decide) | (simp only [ho]; exact h)
  · unfold mChecks mChk; (repeat' split) <;> first | exact hf _ (by decide) | (simp only [ho]; exact h)
  · unfold mDenies; (repeat' split) <;> first | exact hf _ (by decide) | (simp only [ho]; exact h)
  · unfold mAnswers; (repeat' split) <;> first | exact hf _ (by decide) | (simp only [ho]; exact h)
  · unfold mMoves; (repeat' split) <;> first | exact hf _ (by decide) | (simp only [ho]; exact h)
  · unfold mPasses; split
    · rw [mRds_o (by decide)]; exact h
    · exact hf _ (by decide)
def mChg (S : zS) (n t w x y : Nat) : Nat × zS := mEnd (mDoes (mBeg S) n t w x y).2 (mDoes (mBeg S) n t w x y).1
theorem mBeg_12 {S : zS} : mBeg S 12 0 = 0 := by unfold mBeg; rw [zCp_o (by decide), zU_s]
theorem mBeg_o {S : zS} {a b : Nat} (h : a ≠ 14) (h2 : a ≠ 12 ∨ b ≠ 0) : mBeg S a b = S a b := by
  unfold mBeg; rw [zCp_o h]
  rcases h2 with h2 | h2
  · exact zU_o h2
  · exact zU_j h2

theorem mChk_b {S : zS} {n t x y : Nat} : (mChg S n t 4 x y).1 ≤ 1 := by
  unfold mChg mEnd
  split
  · show (mChecks (mBeg S) n t x y).1 ≤ 1
    unfold mChecks mFl
    (repeat' split) <;> simp
  · exact Nat.zero_le _
