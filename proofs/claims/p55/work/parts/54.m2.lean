/-- the model's row, its bounds -/
def mNow (S : zS) (n t : Nat) : Prop := S 13 0 = n ∧ n ≤ 12 ∧ S 13 1 = t ∧ t ≤ 4 ∧ (∀ e, e < 12 → S 13 (5 + e) < 4 ∧ S 13 (17 + e) ≤ 9 ∧ S 13 (29 + e) < 4096) ∧ (∀ r, r < 4 → S 13 (41 + 5 * r + 0) ≤ 9 ∧ S 13 (41 + 5 * r + 1) ≤ 1 ∧ S 13 (41 + 5 * r + 3) < 4096 ∧ S 13 (41 + 5 * r + 4) < 4096)
def mFl (S : zS) (k : Nat) : Nat × zS := (0, zU S 12 0 k)
def mAdds (S : zS) (n x y : Nat) : Nat × zS :=
  if x < 4 ∧ y ≤ 9 then (if n = 12 then mFl S 2 else (n, zU (zU (zU S 13 (5 + n) x) 13 (17 + n) y) 13 0 (n + 1))) else mFl S 1
def mLsum (S : zS) (n : Nat) : Nat := zIt (fun e s => s + zpop (S 13 (29 + e))) n 0
def mLinks (S : zS) (n : Nat) : Nat := mLsum S n / 2
def mTurn (S : zS) (x y : Nat) : zS := zU (zU S 13 (29 + x) (S 13 (29 + x) ^^^ 1 * 2 ^ y)) 13 (29 + y) (zU S 13 (29 + x) (S 13 (29 + x) ^^^ 1 * 2 ^ y) 13 (29 + y) ^^^ 1 * 2 ^ x)
def mJoins (S : zS) (n x y : Nat) : Nat × zS :=
  if x < n ∧ y < n then (if x = y then mFl S 2 else if (S 13 (29 + x)).testBit y = true then mFl S 3 else (mLinks (mTurn S x y) n, mTurn S x y)) else mFl S 1
def mCuts (S : zS) (n x y : Nat) : Nat × zS :=
  if x < n ∧ y < n then (if (S 13 (29 + x)).testBit y = true then (mLinks (mTurn S x y) n, mTurn S x y) else mFl S 2) else mFl S 1
def mMoves (S : zS) (n x y : Nat) : Nat × zS :=
  if x < n then (if y < 4 then (if S 13 (5 + x) = y then mFl S 3 else (S 13 (5 + x), zU S 13 (5 + x) y)) else mFl S 2) else mFl S 1
def mStarts (S : zS) (n t x y : Nat) : Nat × zS :=
  if x < n then (if y ≤ 9 then (if t = 4 then mFl S 3 else (t, zU (zU (zU (zU (zU (zU (zU S 13 (41 + 5 * t + 0) y) 13 (41 + 5 * t + 1) 0) 13 (41 + 5 * t + 2) x) 13 (41 + 5 * t + 3) (1 * 2 ^ x)) 13 (41 + 5 * t + 4) 0) 13 (61 + 12 * t + x) (S 13 2)) 13 1 (t + 1))) else mFl S 2) else mFl S 1
def mChk (S : zS) (r e : Nat) : zS :=
  let A := zU S 13 (41 + 5 * r + 3) (S 13 (41 + 5 * r + 3) ^^^ 1 * 2 ^ e)
  let B := zU A 13 (41 + 5 * r + 4) (A 13 (41 + 5 * r + 4) ||| 1 * 2 ^ e)
  zU B 13 4 (B 13 4 + 1)
def mChecks (S : zS) (n t r e : Nat) : Nat × zS :=
  if r < t ∧ e < n then (if (S 13 (41 + 5 * r + 3)).testBit e = true then (if S 13 (17 + e) ≤ S 13 (41 + 5 * r + 0) then (0, S) else (1, mChk S r e)) else mFl S 2) else mFl S 1
def mDenies (S : zS) (t r : Nat) : Nat × zS :=
  if r < t then (if S 13 (41 + 5 * r + 1) = 1 then mFl S 2 else (zpop (S 13 (41 + 5 * r + 3)), zU S 13 (41 + 5 * r + 1) 1)) else mFl S 1
def mAnswers (S : zS) (t r y : Nat) : Nat × zS :=
  if r < t then (if y ≤ 9 then (if S 13 (41 + 5 * r + 1) = 0 then mFl S 3 else (S 13 (41 + 5 * r + 0), zU (zU S 13 (41 + 5 * r + 1) 0) 13 (41 + 5 * r + 0) y)) else mFl S 2) else mFl S 1
theorem mLsum_le {S : zS} (n : Nat) : mLsum S n ≤ 12 * n := by
  unfold mLsum
  induction n with
  | zero => exact Nat.le_refl _
  | succ n ih => rw [zIt]; have := zpop_le (S 13 (29 + n)); omega
theorem zXor_lt {x i : Nat} (hx : x < 4096) (hi : i < 12) : x ^^^ 1 * 2 ^ i < 4096 := Nat.xor_lt_two_pow (n := 12) hx (zBit_lt hi)
theorem mTurn_lt {S : zS} {x y : Nat} (hls : ∀ e, e < 12 → S 13 (29 + e) < 4096) (hx : x < 12) (hy : y < 12) : ∀ e, e < 12 → mTurn S x y 13 (29 + e) < 4096 := by
  intro e he
  have h1 : ∀ e, e < 12 → zU S 13 (29 + x) (S 13 (29 + x) ^^^ 1 * 2 ^ y) 13 (29 + e) < 4096 := by
    intro e he
    by_cases h : 29 + e = 29 + x
    · rw [h, zU_s]; exact zXor_lt (hls x hx) hy
    · rw [zU_j h]; exact hls e he
  unfold mTurn
  by_cases h : 29 + e = 29 + y
  · rw [h, zU_s]; exact zXor_lt (h1 y hy) hx
  · rw [zU_j h]; exact h1 e he
