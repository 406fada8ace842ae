def zmk (n : Nat) (p : Nat → Bool) : Nat := zIt (fun e m => m ||| (if p e = true then 1 * 2 ^ e else 0)) n 0
theorem zmk_lt {n : Nat} (h : n ≤ 12) (p : Nat → Bool) : zmk n p < 4096 := by
  unfold zmk
  refine zIt_inv (fun m => m < 4096) (by decide) (fun i q hi hq => ?_)
  split
  · exact zOr_lt hq (zBit_lt (by omega))
  · exact zOr_lt hq (by decide)
theorem zmk_lts {n i : Nat} (h : n ≤ 12) (hi : i ≤ n) (p : Nat → Bool) : zIt (fun e m => m ||| (if p e = true then 1 * 2 ^ e else 0)) i 0 < 4096 := zmk_lt (n := i) (by omega) p
def mHrB (S : zS) (r e : Nat) : Bool := !(S 13 (41 + 5 * r + 3) ||| S 13 (41 + 5 * r + 4)).testBit e && !(S 13 (29 + e) &&& S 13 (41 + 5 * r + 3) == 0)
def mHears (S : zS) (n r : Nat) : Nat := if S 13 (41 + 5 * r + 1) = 1 then 0 else zmk n (mHrB S r)
def mBlB (S : zS) (r e : Nat) : Bool := decide (S 13 (17 + e) < S 13 (41 + 5 * r + 0) + zpop (S 13 (29 + e) &&& S 13 (41 + 5 * r + 3)))
def mBel (S : zS) (n r : Nat) : Nat := zmk n (fun e => (mHears S n r).testBit e && mBlB S r e)
theorem mHears_lt {S : zS} {n r : Nat} (h : n ≤ 12) : mHears S n r < 4096 := by
  unfold mHears; split
  · decide
  · exact zmk_lt h _
def mHrd (S : zS) (n r h : Nat) : zS := zIt (fun e q => if h.testBit e = true then zU q 13 (61 + 12 * r + e) (S 13 2) else q) n S
theorem mHrd_lo {S : zS} {n r h a b : Nat} (hb : a ≠ 13 ∨ b < 61) : mHrd S n r h a b = S a b :=
  zIt_inv (fun q : zS => q a b = S a b) rfl (fun i q _ hq => by
    split
    · unfold zU; rw [if_neg (by omega)]; exact hq
    · exact hq)
theorem mHrd_los {S : zS} {i r h a b : Nat} (hb : a ≠ 13 ∨ b < 61) : zIt (fun e q => if h.testBit e = true then zU q 13 (61 + 12 * r + e) (S 13 2) else q) i S a b = S a b := mHrd_lo (n := i) hb
/-- one round of a rumour in the model -/
def mSpr (S : zS) (n r : Nat) : zS :=
  zU (zU (zU (zU (mHrd S n r (mHears S n r)) 13 3 (S 13 3 + zpop (mHears S n r))) 13 (41 + 5 * r + 3) (S 13 (41 + 5 * r + 3) ||| mBel S n r)) 13 (41 + 5 * r + 4) (S 13 (41 + 5 * r + 4) ||| mHears S n r &&& (mBel S n r ^^^ 4294967295))) 13 (41 + 5 * r + 0) (if mBel S n r = 0 then S 13 (41 + 5 * r + 0) - 1 else S 13 (41 + 5 * r + 0))

theorem mSpr_o {S : zS} {n r a b : Nat} (ha : a ≠ 13) : mSpr S n r a b = S a b := by
  unfold mSpr
  rw [zU_o ha, zU_o ha, zU_o ha, zU_o ha]
  exact mHrd_lo (Or.inl ha)
theorem mSpr_lo {S : zS} {n r b : Nat} (h3 : b ≠ 3) (hb : b < 41 + 5 * r ∨ 41 + 5 * r + 5 ≤ b) (h61 : b < 61) : mSpr S n r 13 b = S 13 b := by
  unfold mSpr
  rw [zU_j (by omega), zU_j (by omega), zU_j (by omega), zU_j (by omega)]
  exact mHrd_lo (Or.inr h61)
theorem mSpr_0 {S : zS} {n r : Nat} : mSpr S n r 13 (41 + 5 * r + 0) = if mBel S n r = 0 then S 13 (41 + 5 * r + 0) - 1 else S 13 (41 + 5 * r + 0) := by unfold mSpr; rw [zU_s]
theorem mSpr_1 {S : zS} {n r : Nat} (hr : r < 4) : mSpr S n r 13 (41 + 5 * r + 1) = S 13 (41 + 5 * r + 1) := by
  unfold mSpr
  rw [zU_j (by omega), zU_j (by omega), zU_j (by omega), zU_j (by omega)]; exact mHrd_lo (Or.inr (by omega))
theorem mSpr_2 {S : zS} {n r : Nat} (hr : r < 4) : mSpr S n r 13 (41 + 5 * r + 2) = S 13 (41 + 5 * r + 2) := by
  unfold mSpr
  rw [zU_j (by omega), zU_j (by omega), zU_j (by omega), zU_j (by omega)]; exact mHrd_lo (Or.inr (by omega))
theorem mSpr_3 {S : zS} {n r : Nat} : mSpr S n r 13 (41 + 5 * r + 3) = S 13 (41 + 5 * r + 3) ||| mBel S n r := by unfold mSpr; rw [zU_j (by omega), zU_j (by omega), zU_s]
theorem mSpr_4 {S : zS} {n r : Nat} : mSpr S n r 13 (41 + 5 * r + 4) = S 13 (41 + 5 * r + 4) ||| mHears S n r &&& (mBel S n r ^^^ 4294967295) := by unfold mSpr; rw [zU_j (by omega), zU_s]
theorem mSpr_now {S : zS} {n t r : Nat} (h : mNow S n t) (hr : r < 4) : mNow (mSpr S n r) n t := by
  obtain ⟨hn, hz, ht, ht4, hls, hrs⟩ := h
  have hh := mHears_lt (S := S) (r := r) hz
  have hb : mBel S n r < 4096 := zmk_lt hz _
  refine ⟨(mSpr_lo (by decide) (Or.inl (by omega)) (by decide)).trans hn, hz, (mSpr_lo (by decide) (Or.inl (by omega)) (by decide)).trans ht, ht4, fun e he => ?_, fun q hq => ?_⟩
  · rw [mSpr_lo (by omega) (Or.inl (by omega)) (by omega), mSpr_lo (by omega) (Or.inl (by omega)) (by omega), mSpr_lo (by omega) (Or.inl (by omega)) (by omega)]
    exact hls e he
  · by_cases e : q = r
    · subst e
      obtain ⟨h0, h1, h3, h4⟩ := hrs q hq
      refine ⟨?_, ?_, ?_, ?_⟩
      · rw [mSpr_0]; split <;> omega
      · rw [mSpr_1 hr]; exact h1
      · rw [mSpr_3]; exact zOr_lt h3 hb
      · rw [mSpr_4]; exact zOr_lt h4 (zAnd_lt hh)
    · have hne : ∀ k, k < 5 → mSpr S n r 13 (41 + 5 * q + k) = S 13 (41 + 5 * q + k) := fun k hk => mSpr_lo (by omega) (by omega) (by omega)
      rw [hne 0 (by decide), hne 1 (by decide), hne 3 (by decide), hne 4 (by decide)]
      exact hrs q hq
def mP1 (n r : Nat) (q : Nat × zS) : Nat × zS := if q.2 13 (41 + 5 * r + 1) = 1 then q else (q.1 + zpop (mBel q.2 n r), mSpr q.2 n r)
def mRnd (n t : Nat) (q : Nat × zS) : Nat × zS := ((zIt (fun r q => mP1 n r q) t q).1, zU (zIt (fun r q => mP1 n r q) t q).2 13 2 ((zIt (fun r q => mP1 n r q) t q).2 13 2 + 1))
def mRds (n t k : Nat) (S : zS) : Nat × zS := zIt (fun _ q => mRnd n t q) k (0, S)
theorem mP1_now {n t r : Nat} {q : Nat × zS} (h : mNow q.2 n t) (hr : r < 4) : mNow (mP1 n r q).2 n t := by
  unfold mP1; split
  · exact h
  · exact mSpr_now h hr
theorem mNow.u2 {S : zS} {n t k v : Nat} (h : mNow S n t) (hk : 2 ≤ k ∧ k < 5) : mNow (zU S 13 k v) n t := by
  obtain ⟨hn, hz, ht, ht4, hls, hrs⟩ := h
  refine ⟨(zU_j (by omega)).trans hn, hz, (zU_j (by omega)).trans ht, ht4, fun e he => ?_, fun q hq => ?_⟩
  · rw [zU_j (by omega), zU_j (by omega), zU_j (by omega)]; exact hls e he
  · rw [zU_j (by omega), zU_j (by omega), zU_j (by omega), zU_j (by omega)]; exact hrs q hq
theorem mRnd_now {n t : Nat} {q : Nat × zS} (h : mNow q.2 n t) : mNow (mRnd n t q).2 n t := by
  have ht4 := h.2.2.2.1
  exact (zIt_inv (fun q : Nat × zS => mNow q.2 n t) h (fun i q hi hq => mP1_now hq (by omega))).u2 (by decide)
theorem mRds_now {n t k : Nat} {S : zS} (h : mNow S n t) : mNow (mRds n t k S).2 n t := zIt_inv (fun q : Nat × zS => mNow q.2 n t) h (fun _ _ _ hq => mRnd_now hq)
theorem mP1_o {n r a b : Nat} {q : Nat × zS} (ha : a ≠ 13) : (mP1 n r q).2 a b = q.2 a b := by
  unfold mP1; split
  · rfl
  · exact mSpr_o ha
theorem mRnd_o {n t a b : Nat} {q : Nat × zS} (ha : a ≠ 13) : (mRnd n t q).2 a b = q.2 a b := by
  unfold mRnd
  dsimp only
  rw [zU_o ha]
  exact zIt_inv (fun p : Nat × zS => p.2 a b = q.2 a b) rfl (fun _ _ _ hp => (mP1_o ha).trans hp)
theorem mRds_o {n t k a b : Nat} {S : zS} (ha : a ≠ 13) : (mRds n t k S).2 a b = S a b := zIt_inv (fun p : Nat × zS => p.2 a b = S a b) rfl (fun _ _ _ hp => (mRnd_o ha).trans hp)

def mPasses (S : zS) (n t x : Nat) : Nat × zS := if 1 ≤ x ∧ x ≤ 20 then mRds n t x S else mFl S 1
