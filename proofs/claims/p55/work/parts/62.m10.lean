/-! the model's reader: here, isWrong, isLeft over a base -/
def mRd (S : zS) (h w : Nat) (L : Nat → Nat) : zS := fun a b => if a = 12 ∧ b = 16 then h else if a = 12 ∧ b = 19 then w else if a = 20 ∧ b < 9 then L b else S a b
theorem mRd_16 {S : zS} {h w v : Nat} {L : Nat → Nat} : zU (mRd S h w L) 12 16 v = mRd S v w L := by
  funext a b; unfold zU mRd
  by_cases h1 : a = 12 ∧ b = 16
  · rw [if_pos h1, if_pos h1]
  · rw [if_neg h1, if_neg h1, if_neg h1]
theorem mRd_19 {S : zS} {h w v : Nat} {L : Nat → Nat} : zU (mRd S h w L) 12 19 v = mRd S h v L := by
  funext a b; unfold zU mRd
  by_cases h1 : a = 12 ∧ b = 19
  · rw [if_pos h1, if_neg (by omega), if_pos h1]
  · rw [if_neg h1]
    by_cases h2 : a = 12 ∧ b = 16
    · rw [if_pos h2, if_pos h2]
    · rw [if_neg h2, if_neg h2, if_neg h1, if_neg h1]
def mUpd (L : Nat → Nat) (i x : Nat) : Nat → Nat := fun b => if b = i then x else L b
theorem mRd_20 {S : zS} {h w i x : Nat} {L : Nat → Nat} (hi : i < 9) : zU (mRd S h w L) 20 i x = mRd S h w (mUpd L i x) := by
  funext a b; unfold zU mRd mUpd
  by_cases h1 : a = 20 ∧ b = i
  · rw [if_pos h1, if_neg (by omega), if_neg (by omega), if_pos (by omega), if_pos h1.2]
  · rw [if_neg h1]
    by_cases h2 : a = 12 ∧ b = 16
    · rw [if_pos h2, if_pos h2]
    · rw [if_neg h2, if_neg h2]
      by_cases h3 : a = 12 ∧ b = 19
      · rw [if_pos h3, if_pos h3]
      · rw [if_neg h3, if_neg h3]
        by_cases h4 : a = 20 ∧ b < 9
        · rw [if_pos h4, if_pos h4, if_neg (by omega)]
        · rw [if_neg h4, if_neg h4]
theorem mRd_congr {S : zS} {h w : Nat} {L L' : Nat → Nat} (hL : ∀ b, b < 9 → L b = L' b) : mRd S h w L = mRd S h w L' := by
  funext a b; unfold mRd
  by_cases h4 : a = 20 ∧ b < 9
  · rw [if_pos h4, if_pos h4, hL b h4.2]
  · rw [if_neg h4, if_neg h4]
theorem mRd_at {S : zS} {h w a b : Nat} {L : Nat → Nat} (h1 : a ≠ 12) (h2 : a ≠ 20) : mRd S h w L a b = S a b := by
  unfold mRd; rw [if_neg (by omega), if_neg (by omega), if_neg (by omega)]
theorem mRd_self {S : zS} : mRd S (S 12 16) (S 12 19) (S 20) = S := by
  funext a b; unfold mRd
  split
  · rename_i h; rw [h.1, h.2]
  · split
    · rename_i h; rw [h.1, h.2]
    · split
      · rename_i h; rw [h.1]
      · rfl
theorem mRd_rd {S : zS} {h w h' w' : Nat} {L L' : Nat → Nat} : mRd (mRd S h w L) h' w' L' = mRd S h' w' L' := by
  funext a b; unfold mRd
  (repeat' split) <;> first | rfl | (exfalso; omega)
theorem mRd_w {S : zS} {h w : Nat} {L : Nat → Nat} : mRd S h w L 12 19 = w := rfl
/-- the sign at a place, or -1 behind the end -/
def mS (S : zS) (q : Nat) : Nat := if q < S 12 17 then S 18 q else 4294967295
def mTx (S : zS) : Prop := S 12 17 ≤ 60 ∧ ∀ k, k < 60 → S 18 k < 65536
theorem mS_lt {S : zS} (ht : mTx S) (q : Nat) : mS S q < 2 ^ 32 := by
  unfold mS; split
  · have := ht.2 q (by have := ht.1; omega); omega
  · decide
def mDg (sg : Nat → Nat) : Nat → Nat → Nat → Nat × Nat
  | 0, p, v => (p, v)
  | k + 1, p, v => if 48 ≤ sg p ∧ sg p ≤ 57 then mDg sg k (p + 1) (v * 10 + (sg p - 48)) else (p, v)
theorem mDg_ge {sg : Nat → Nat} : ∀ (k p v : Nat), p ≤ (mDg sg k p v).1 ∧ (mDg sg k p v).1 ≤ p + k := by
  intro k
  induction k with
  | zero => intro p v; exact ⟨Nat.le_refl _, Nat.le_refl _⟩
  | succ k ih =>
    intro p v
    rw [mDg]; split
    · have := ih (p + 1) (v * 10 + (sg p - 48)); omega
    · constructor <;> dsimp only <;> omega
theorem mDg_len {S : zS} : ∀ (k p v : Nat), p ≤ S 12 17 → (mDg (mS S) k p v).1 ≤ S 12 17 := by
  intro k
  induction k with
  | zero => intro p v h; exact h
  | succ k ih =>
    intro p v hp
    rw [mDg]; split
    · rename_i h
      refine ih _ _ ?_
      unfold mS at h
      by_cases hl : p < S 12 17
      · exact hl
      · rw [if_neg hl] at h; omega
    · exact hp
theorem mDg_val {sg : Nat → Nat} : ∀ (k p v : Nat), (mDg sg k p v).2 < (v + 1) * 10 ^ k := by
  intro k
  induction k with
  | zero => intro p v; simp [mDg]
  | succ k ih =>
    intro p v
    rw [mDg]
    split
    · rename_i h
      have h2 := ih (p + 1) (v * 10 + (sg p - 48))
      refine Nat.lt_of_lt_of_le h2 ?_
      rw [Nat.pow_succ, Nat.mul_comm (10 ^ k) 10, ← Nat.mul_assoc]
      exact Nat.mul_le_mul_right _ (by omega)
    · have h1 : 1 ≤ 10 ^ (k + 1) := Nat.one_le_pow _ _ (by decide)
      calc v < (v + 1) * 1 := by omega
        _ ≤ (v + 1) * 10 ^ (k + 1) := Nat.mul_le_mul_left _ h1
/-- a space and a number: value, place, wrong -/
def mBh (sg : Nat → Nat) (k h : Nat) : Nat × Nat × Nat := if sg h = 32 then ((mDg sg k (h + 1) 0).2, (mDg sg k (h + 1) 0).1, if (mDg sg k (h + 1) 0).1 = h + 1 then 1 else 0) else (0, h, 1)
