/-! a script read: the model's first reading -/
section RM
variable {A S : zS} {n t : Nat} {P K : Nat → Nat} {M : Nat → Bool × Nat × Nat × Nat × Nat}
theorem mS_rd {h w : Nat} {L : Nat → Nat} : mS (mRd S h w L) = mS S := by
  funext q
  unfold mS
  rw [mRd_12 (by decide) (by decide), show mRd S h w L 18 q = S 18 q from by unfold mRd; rw [if_neg (by omega), if_neg (by omega), if_neg (by omega)]]
/-- a command only read -/
theorem mCmE_read (H : zSq A P K M) (hS : mS S = zSg A) (h20 : S 12 20 = 0) {i : Nat} : ∃ L, mCmE S n t (P i) = mRd S (M i).2.1 (if (M i).1 = true then 0 else 1) L := by
  obtain ⟨⟨w, x, y, p, wr, nf⟩, hC⟩ : ∃ T, mCm (mS S) (P i) = T := ⟨_, rfl⟩
  have e := mCmE_of (n := n) (t := t) hC
  rw [if_neg (fun q => q.2 h20)] at e
  refine ⟨mWL (mS S) (P i) nf, e.trans ?_⟩
  have h := tie_cmd (A := A) (p := P i)
  unfold zCmT at h
  have eM : zMatch A (zFur A (P i)).1 (P i) = M i := by rw [(H.2 i).2.1, (H.2 i).1]
  rw [eM, ← hS, hC] at h
  rcases h with ⟨h1, h2⟩ | ⟨h1, h2, h3⟩
  · rw [if_pos h1]
    have h4 : p = (M i).2.1 := congrArg (fun T : Nat × Nat × Nat × Nat × Nat × Nat => T.2.2.2.1) h2
    have h5 : wr = 0 := congrArg (fun T : Nat × Nat × Nat × Nat × Nat × Nat => T.2.2.2.2.1) h2
    rw [h4, h5]
  · rw [if_neg (by rw [h1]; exact Bool.false_ne_true)]
    have h2 : p = (M i).2.1 := h2
    have h3 : wr = 1 := h3
    rw [h2, h3]
theorem mNx_read (H : zSq A P K M) (hS : mS S = zSg A) (h20 : S 12 20 = 0) {i w : Nat} {L : Nat → Nat} (h59 : zSg A (M i).2.1 = 59) : ∃ L', mNx (mRd S (M i).2.1 w L) = mRd S (M (i + 1)).2.1 (if (M (i + 1)).1 = true then 0 else 1) L' := by
  have h16 : mRd S (M i).2.1 w L 12 16 = (M i).2.1 := by unfold mRd; rw [if_pos ⟨rfl, rfl⟩]
  unfold mNx
  rw [h16, mS_rd, hS, if_pos h59]
  obtain ⟨L', e⟩ := mCmE_read H (A := A) (S := mRd S (M i).2.1 w L) (n := mRd S (M i).2.1 w L 13 0) (t := mRd S (M i).2.1 w L 13 1) (by rw [mS_rd]; exact hS) (by rw [mRd_12 (by decide) (by decide)]; exact h20) (i := i + 1)
  exact ⟨L', by rw [← (H.2 i).2.2, e, mRd_rd]⟩
theorem mRd_g16 {h w : Nat} {L : Nat → Nat} : mRd S h w L 12 16 = h := by unfold mRd; rw [if_pos ⟨rfl, rfl⟩]
theorem mRd_g19 {h w : Nat} {L : Nat → Nat} : mRd S h w L 12 19 = w := by unfold mRd; rw [if_neg (by omega), if_pos ⟨rfl, rfl⟩]
theorem mCsL_good (H : zSq A P K M) (hS : mS S = zSg A) (h20 : S 12 20 = 0) (h0 : S 12 0 = 0) (h17 : S 12 17 = A 5 1) {c : Nat} : ∀ d i cc m L, i + d + 1 = c → (∀ j, i ≤ j → j < c → (M j).1 = true) → (∀ j, i ≤ j → j + 1 < c → (M j).2.1 < A 5 1 ∧ zSg A (M j).2.1 = 59) → (M (c - 1)).2.1 = A 5 1 → d ≤ m → ∃ L', mCsL m cc (mRd S (M i).2.1 0 L) = (cc + d, mRd S (A 5 1) 0 L') := by
  intro d
  induction d with
  | zero =>
    intro i cc m L hc hok hsep hend hm
    have e : (M i).2.1 = A 5 1 := by rw [show i = c - 1 from by omega]; exact hend
    rw [e]
    cases m with
    | zero => exact ⟨L, rfl⟩
    | succ m =>
      rw [mCsL, mRd_g16, mRd_12 (b := 17) (by decide) (by decide), h17, if_neg (fun q => Nat.lt_irrefl _ q.2.2)]
      exact ⟨L, rfl⟩
  | succ d ih =>
    intro i cc m L hc hok hsep hend hm
    obtain ⟨m', rfl⟩ : ∃ m', m = m' + 1 := ⟨m - 1, by omega⟩
    obtain ⟨s1, s2⟩ := hsep i (Nat.le_refl _) (by omega)
    rw [mCsL, mRd_g16, mRd_g19, mRd_12 (b := 17) (by decide) (by decide), mRd_12 (b := 0) (by decide) (by decide), h17, if_pos ⟨rfl, h0, s1⟩]
    obtain ⟨L1, e1⟩ := mNx_read H hS h20 (i := i) (w := 0) (L := L) s2
    rw [e1, if_pos (hok (i + 1) (by omega) (by omega))]
    obtain ⟨L2, e2⟩ := ih (i + 1) (cc + 1) m' L1 (by omega) (fun j h1 h2 => hok j (by omega) h2) (fun j h1 h2 => hsep j (by omega) h2) hend (by omega)
    exact ⟨L2, by rw [e2]; congr 1; omega⟩
theorem mCsL_bad (H : zSq A P K M) (hS : mS S = zSg A) (h20 : S 12 20 = 0) (h0 : S 12 0 = 0) (h17 : S 12 17 = A 5 1) {c : Nat} (hbad : (M c).1 = false ∨ ((M c).1 = true ∧ (M c).2.1 < A 5 1 ∧ ¬ zSg A (M c).2.1 = 59)) : ∀ d i cc m L, i + d = c → (∀ j, i ≤ j → j < c → (M j).1 = true ∧ (M j).2.1 < A 5 1 ∧ zSg A (M j).2.1 = 59) → d + 1 ≤ m → ∃ c' L', mCsL m cc (mRd S (M i).2.1 (if (M i).1 = true then 0 else 1) L) = (c', mRd S (M c).2.1 1 L') := by
  intro d
  induction d with
  | zero =>
    intro i cc m L hc hok hm
    have e : i = c := by omega
    subst e
    obtain ⟨m', rfl⟩ : ∃ m', m = m' + 1 := ⟨m - 1, by omega⟩
    rcases hbad with h | ⟨h1, h2, h3⟩
    · rw [if_neg (by rw [h]; exact Bool.false_ne_true), mCsL, mRd_g19, if_neg (fun q => by have := q.1; omega)]
      exact ⟨_, _, rfl⟩
    · rw [if_pos h1, mCsL, mRd_g16, mRd_g19, mRd_12 (b := 17) (by decide) (by decide), mRd_12 (b := 0) (by decide) (by decide), h17, if_pos ⟨rfl, h0, h2⟩]
      have e1 : mNx (mRd S (M i).2.1 0 L) = mRd S (M i).2.1 1 (mRd S (M i).2.1 0 L 20) := by
        unfold mNx
        rw [mRd_g16, mS_rd, hS, if_neg h3, mRd_rd]
      rw [e1]
      cases m' with
      | zero => exact ⟨_, _, rfl⟩
      | succ m' =>
        rw [mCsL, mRd_g19, if_neg (fun q => by have := q.1; omega)]
        exact ⟨_, _, rfl⟩
  | succ d ih =>
    intro i cc m L hc hok hm
    obtain ⟨m', rfl⟩ : ∃ m', m = m' + 1 := ⟨m - 1, by omega⟩
    obtain ⟨s0, s1, s2⟩ := hok i (Nat.le_refl _) (by omega)
    rw [if_pos s0, mCsL, mRd_g16, mRd_g19, mRd_12 (b := 17) (by decide) (by decide), mRd_12 (b := 0) (by decide) (by decide), h17, if_pos ⟨rfl, h0, s1⟩]
    obtain ⟨L1, e1⟩ := mNx_read H hS h20 (i := i) (w := 0) (L := L) s2
    rw [e1]
    exact ih (i + 1) (cc + 1) m' L1 (by omega) (fun j h1 h2 => hok j (by omega) h2) (by omega)
end RM
