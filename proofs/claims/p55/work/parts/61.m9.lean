/-- a sign written, a number written -/
def mW (S : zS) (s : Nat) : zS := zU (zU S 19 (S 12 18) s) 12 18 (S 12 18 + 1)
def mWn (S : zS) (n : Nat) : zS := if n < 10 then mW S (48 + n) else mW (mW S (48 + n / 10)) (48 + n % 10)
theorem mW_len {S : zS} {s : Nat} : mW S s 12 18 = S 12 18 + 1 := by unfold mW; rw [zU_s]
theorem mW_o {S : zS} {s a b : Nat} (h : a ≠ 19) (h2 : a ≠ 12 ∨ b ≠ 18) : mW S s a b = S a b := by
  unfold mW
  rcases h2 with h2 | h2
  · rw [zU_o h2, zU_o h]
  · rw [zU_j h2, zU_o h]
theorem mWn_len {S : zS} {n : Nat} : S 12 18 + 1 ≤ mWn S n 12 18 ∧ mWn S n 12 18 ≤ S 12 18 + 2 := by
  unfold mWn; split
  · rw [mW_len]; omega
  · rw [mW_len, mW_len]; omega
theorem mWn_1 {S : zS} {n : Nat} (h : n < 10) : mWn S n 12 18 = S 12 18 + 1 := by unfold mWn; rw [if_pos h, mW_len]
theorem mWn_o {S : zS} {n a b : Nat} (h : a ≠ 19) (h2 : a ≠ 12 ∨ b ≠ 18) : mWn S n a b = S a b := by
  unfold mWn; split
  · rw [mW_o h h2]
  · rw [mW_o h h2, mW_o h h2]

def mSg (V : Nat → Nat) (r e : Nat) : Nat := if (V (41 + 5 * r + 3)).testBit e = true then 43 else if (V (41 + 5 * r + 4)).testBit e = true then 45 else 46
def mLn (S : zS) : zS := zU (zU S 12 0 0) 12 18 0
def mRR0 (S : zS) (r : Nat) : zS := mWn (mW (mWn (mW (mLn S) 114) r) 58) (S 13 (41 + 5 * r + 0))
def mRR1 (S : zS) (r : Nat) : zS := if S 13 (41 + 5 * r + 1) = 1 then mW (mRR0 S r) 120 else mRR0 S r
def mRR (S : zS) (n r : Nat) : zS := zIt (fun e q => mW q (mSg (S 13) r e)) n (mRR1 S r)
def mRHs (V : Nat → Nat) (x e : Nat) (q : zS) : zS := if V (5 + e) = x then mWn (if 0 < q 12 18 then mW q 44 else q) e else q
def mRH (S : zS) (n x : Nat) : zS := zIt (fun e q => mRHs (S 13) x e q) n (mLn S)
theorem mLn_o {S : zS} {a b : Nat} (h : a ≠ 12) : mLn S a b = S a b := by unfold mLn; rw [zU_o h, zU_o h]
theorem mLn_len {S : zS} : mLn S 12 18 = 0 := by unfold mLn; rw [zU_s]
theorem mRHs_o {V : Nat → Nat} {x e a b : Nat} {q : zS} (h : a ≠ 19) (h2 : a ≠ 12 ∨ b ≠ 18) : mRHs V x e q a b = q a b := by
  unfold mRHs; split
  · rw [mWn_o h h2]; split
    · exact mW_o h h2
    · rfl
  · rfl
theorem mRHs_len {V : Nat → Nat} {x e : Nat} {q : zS} : mRHs V x e q 12 18 ≤ q 12 18 + 3 := by
  unfold mRHs; split
  · split
    · have := (mWn_len (S := mW q 44) (n := e)).2; rw [mW_len] at this; omega
    · have := (mWn_len (S := q) (n := e)).2; omega
  · omega
theorem mRR0_o {S : zS} {r a b : Nat} (h : a ≠ 19) (h2 : a ≠ 12) : mRR0 S r a b = S a b := by
  unfold mRR0; rw [mWn_o h (Or.inl h2), mW_o h (Or.inl h2), mWn_o h (Or.inl h2), mW_o h (Or.inl h2), mLn_o h2]
theorem mRR1_o {S : zS} {r a b : Nat} (h : a ≠ 19) (h2 : a ≠ 12) : mRR1 S r a b = S a b := by
  unfold mRR1; split
  · rw [mW_o h (Or.inl h2), mRR0_o h h2]
  · exact mRR0_o h h2
theorem mRR0_len {S : zS} {r : Nat} (hr : r < 10) (hf : S 13 (41 + 5 * r + 0) < 10) : mRR0 S r 12 18 = 4 := by
  unfold mRR0; rw [mWn_1 hf, mW_len, mWn_1 hr, mW_len, mLn_len]
theorem mRR1_len {S : zS} {r : Nat} (hr : r < 10) (hf : S 13 (41 + 5 * r + 0) < 10) : mRR1 S r 12 18 ≤ 5 := by
  unfold mRR1; split
  · rw [mW_len, mRR0_len hr hf]; omega
  · rw [mRR0_len hr hf]; omega

theorem nI_i2c {v : Nat} (h : v < 65536) : ((nI v).toUInt32 % 65536).toInt32 = nI v := by
  apply Int32.toBitVec_inj.mp
  apply BitVec.eq_of_toNat_eq
  show ((BitVec.ofNat 32 v) % (65536 : BitVec 32)).toNat = (BitVec.ofNat 32 v).toNat
  rw [BitVec.toNat_umod, BitVec.toNat_ofNat]
  show v % 2 ^ 32 % 65536 = v % 2 ^ 32
  omega

def mUn (S : zS) (c i : Nat) : zS := fun a b => if a = 13 ∧ b < i then S 17 (c * 109 + b) else S a b
theorem mUn_0 {S : zS} {c : Nat} : mUn S c 0 = S := by funext a b; simp [mUn]
theorem mUn_o {S : zS} {c i a b : Nat} (h : a ≠ 13) : mUn S c i a b = S a b := by unfold mUn; rw [if_neg (fun q => h q.1)]
theorem mUn_step {S : zS} {c i : Nat} : zU (mUn S c i) 13 i (mUn S c i 17 (c * 109 + i)) = mUn S c (i + 1) := by
  funext a b
  rw [mUn_o (by decide)]
  unfold zU mUn
  by_cases h1 : a = 13
  · subst h1
    by_cases h2 : b = i
    · subst h2; simp
    · by_cases h3 : b < i
      · rw [if_neg (by omega), if_pos ⟨rfl, h3⟩, if_pos ⟨rfl, by omega⟩]
      · rw [if_neg (by omega), if_neg (by omega), if_neg (by omega)]
  · rw [if_neg (by omega), if_neg (by omega), if_neg (by omega)]
