/-! doing a command, reading one -/
def mDoes (S : zS) (n t w x y : Nat) : Nat × zS := match w with
  | 0 => mAdds S n x y
  | 1 => mJoins S n x y
  | 2 => mCuts S n x y
  | 3 => mStarts S n t x y
  | 4 => mChecks S n t x y
  | 5 => mDenies S t x
  | 6 => mAnswers S t x y
  | 7 => mMoves S n x y
  | _ => mPasses S n t x

theorem mWd_ok {sg : Nat → Nat} {p : Nat} : ∀ (k n : Nat), ((mWd sg p k n).2.2.1 = 0 ∧ (mWd sg p k n).1 < 9) ∨ ((mWd sg p k n).2.2.1 = 1 ∧ (mWd sg p k n).1 = 4294967295) := by
  intro k
  induction k with
  | zero => intro n; exact Or.inr ⟨rfl, rfl⟩
  | succ k ih =>
    intro n
    rw [mWd]
    split
    · exact Or.inr ⟨rfl, rfl⟩
    · split
      · rename_i h
        refine Or.inl ⟨rfl, ?_⟩
        rcases wIs_lt (sg := sg) (p := p) (n := n + 1) (Nat.le_refl 9) with h2 | h2
        · exact h2
        · exfalso
          have h3 : wIs sg p (n + 1) = 4294967295 := h2
          omega
      · exact ih (n + 1)
theorem mWd_len {S : zS} {p : Nat} (hp : p ≤ S 12 17) : ∀ (k n : Nat), p + n ≤ S 12 17 → (mWd (mS S) p k n).2.1 ≤ S 12 17 := by
  intro k
  induction k with
  | zero => intro n hn; exact hn
  | succ k ih =>
    intro n hn
    rw [mWd]
    split
    · exact hn
    · rename_i h0
      have hlt : p + n < S 12 17 := by
        apply Classical.byContradiction
        intro hcon
        have e9 : mS S (p + n) = 4294967295 := by unfold mS; rw [if_neg (by omega)]
        exact h0 (zIt_inv (fun m => m = 0) rfl (fun w m hw hm => by
          try dsimp only
          have h1 : wM (mS S) p w (n + 1) = false := by
            rw [wM, e9]
            by_cases h47 : wA w + n < wA (w + 1)
            · have := wW_lt (show wA w + n < 47 by have := (wA_le hw).1; omega)
              rw [decide_eq_false (show ¬ wW (wA w + n) = 4294967295 by omega)]; simp
            · rw [decide_eq_false h47]; simp
          rw [hm, h1]; rfl))
      split
      · exact hlt
      · exact ih (n + 1) hlt
theorem mBh_len {S : zS} {k h : Nat} (hh : h ≤ S 12 17) : (mBh (mS S) k h).2.1 ≤ S 12 17 ∧ (mBh (mS S) k h).2.2 ≤ 1 ∧ (mBh (mS S) k h).1 < 1 * 10 ^ k := by
  unfold mBh
  split
  · rename_i h0
    have hlt : h + 1 ≤ S 12 17 := by
      apply Classical.byContradiction
      intro hcon
      have e9 : mS S h = 4294967295 := by unfold mS; rw [if_neg (by omega)]
      rw [e9] at h0; exact absurd h0 (by decide)
    exact ⟨mDg_len _ _ _ hlt, by (try dsimp only); split <;> omega, mDg_val _ _ _⟩
  · exact ⟨hh, Nat.le_refl 1, Nat.pos_of_ne_zero (by simp [Nat.pow_eq_zero])⟩
/-- digits of a word's first number, of its second (0: none) -/
def mK1 (w : Nat) : Nat := if w = 0 ∨ (4 ≤ w ∧ w ≤ 6) then 1 else 2
def mK2 (w : Nat) : Nat := if w = 1 ∨ w = 2 ∨ w = 4 then 2 else 1
/-- a command read: word, first, second, place, wrong, letters tried -/
def mCm (sg : Nat → Nat) (h : Nat) : Nat × Nat × Nat × Nat × Nat × Nat :=
  match mWd sg h 8 0 with
  | (w, p1, wr, nf) =>
    if wr = 0 then
      (if w = 8 then (if sg p1 = 32 then (8, (mBh sg 2 p1).1, 0, (mBh sg 2 p1).2.1, (mBh sg 2 p1).2.2, nf) else (8, 1, 0, p1, 0, nf))
       else if w = 5 ∨ (mDg sg (mK1 w) p1 0).1 = p1 then (w, (mDg sg (mK1 w) p1 0).2, 0, (mDg sg (mK1 w) p1 0).1, (if (mDg sg (mK1 w) p1 0).1 = p1 then 1 else 0), nf)
       else (w, (mDg sg (mK1 w) p1 0).2, (mBh sg (mK2 w) (mDg sg (mK1 w) p1 0).1).1, (mBh sg (mK2 w) (mDg sg (mK1 w) p1 0).1).2.1, (mBh sg (mK2 w) (mDg sg (mK1 w) p1 0).1).2.2, nf))
    else (w, 1, 0, p1, 1, nf)
def mCmE (S : zS) (n t h : Nat) : zS :=
  match mCm (mS S) h with
  | (w, x, y, p, wr, nf) => if wr = 0 ∧ ¬ S 12 20 = 0 then (mDoes (mRd S p 0 (mWL (mS S) h nf)) n t w x y).2 else mRd S p wr (mWL (mS S) h nf)
theorem mCmE_of {S : zS} {n t h w x y p wr nf : Nat} (hC : mCm (mS S) h = (w, x, y, p, wr, nf)) : mCmE S n t h = if wr = 0 ∧ ¬ S 12 20 = 0 then (mDoes (mRd S p 0 (mWL (mS S) h nf)) n t w x y).2 else mRd S p wr (mWL (mS S) h nf) := by
  unfold mCmE; rw [hC]
