theorem zU_zU {S : zS} {o j x y : Nat} : zU (zU S o j x) o j y = zU S o j y := by
  funext a b; unfold zU; by_cases h : a = o ∧ b = j
  · rw [if_pos h, if_pos h]
  · rw [if_neg h, if_neg h, if_neg h]
/-- the distance: steps taken, from a set that grows -/
def rDist (V : Nat → Nat) (n g : Nat) : Nat → Nat → Nat → Nat
  | 0, _, _ => 4294967295
  | k + 1, i, s => if ¬ s &&& g = 0 then i else if rStep V n s s = s then 4294967295 else rDist V n g k (i + 1) (rStep V n s s)

theorem mHears_row {S Q : zS} {n r : Nat} (h : ∀ b, Q 13 b = S 13 b) : mHears Q n r = mHears S n r := by
  unfold mHears zmk mHrB; simp only [h]
theorem mBel_row {S Q : zS} {n r : Nat} (h : ∀ b, Q 13 b = S 13 b) : mBel Q n r = mBel S n r := by
  unfold mBel zmk mBlB; simp only [h, mHears_row h]
theorem mNow_row {S Q : zS} {n t : Nat} (h : ∀ b, b < 109 → Q 13 b = S 13 b) (hm : mNow S n t) : mNow Q n t := by
  obtain ⟨hn, hz, ht, ht4, hls, hrs⟩ := hm
  refine ⟨(h _ (by decide)).trans hn, hz, (h _ (by decide)).trans ht, ht4, fun e he => ?_, fun r hr => ?_⟩
  · rw [h _ (by omega), h _ (by omega), h _ (by omega)]; exact hls e he
  · rw [h _ (by omega), h _ (by omega), h _ (by omega), h _ (by omega)]; exact hrs r hr

/-- rounds until heard: how many, and the memory -/
def mHL (n t r e : Nat) : Nat → Nat → zS → Nat × zS
  | 0, i, Q => (i, Q)
  | k + 1, i, Q => if (Q 13 (41 + 5 * r + 3) ||| Q 13 (41 + 5 * r + 4)).testBit e = true then (i, Q) else mHL n t r e k (i + 1) (mRds n t 1 Q).2
def mKp (S : zS) : zS := zCp (zU S 12 0 0) 13 16 109
def mRuh (S : zS) (n t r e : Nat) : Nat × zS :=
  if (((mHL n t r e 40 0 (mKp S)).2 13 (41 + 5 * r + 3) ||| (mHL n t r e 40 0 (mKp S)).2 13 (41 + 5 * r + 4)).testBit e) = true then ((mHL n t r e 40 0 (mKp S)).1, zCp (mHL n t r e 40 0 (mKp S)).2 16 13 109)
  else (0, zU (zCp (mHL n t r e 40 0 (mKp S)).2 16 13 109) 12 0 3)
def mRuhF (S : zS) (n t x y : Nat) : Nat × zS :=
  if x < t ∧ y < n then (if (S 13 (41 + 5 * x + 3) ||| S 13 (41 + 5 * x + 4)).testBit y = true then mFl S 2 else mRuh S n t x y) else mFl S 1
theorem mKp_row {S : zS} (b : Nat) : mKp S 13 b = S 13 b := by unfold mKp; rw [zCp_o (by decide)]; exact zU_o (by decide)
theorem mKp_12 {S : zS} (b : Nat) : mKp S 12 b = if b = 0 then 0 else S 12 b := by unfold mKp; rw [zCp_o (by decide)]; simp [zU]

def mAft (S : zS) (n t x y : Nat) : Nat × zS :=
  if x < t then (if y ≤ 40 then (zpop ((mRds n t y (mKp S)).2 13 (41 + 5 * x + 3)), zCp (mRds n t y (mKp S)).2 16 13 109) else mFl S 2) else mFl S 1
