/-! the lines tied; the state put by tied -/
def zLn (A B : zS) : Prop := A 10 3 = B 12 18 ∧ ∀ i, i < A 10 3 → A 11 i = B 19 i
section LN
variable {A B : zS} {n t : Nat}
theorem zLn.emp : zLn (zEmp A) (mLn B) := by
  refine ⟨by rw [zEmp_len, mLn_len], fun i hi => ?_⟩
  rw [zEmp_len] at hi; omega
theorem mW_19 {c i : Nat} : mW B c 19 i = if i = B 12 18 then c else B 19 i := by
  unfold mW
  rw [zU_o (by decide)]
  by_cases e : i = B 12 18
  · rw [if_pos e, e, zU_s]
  · rw [if_neg e, zU_j e]
theorem zLn.putc (L : zLn A B) (Z : zSB A) (h : A 10 3 + 1 ≤ 34) {c : Nat} : zLn (zPutc A c) (mW B c) := by
  obtain ⟨l1, l2⟩ := L
  have hcnt := Z.2.2.1
  refine ⟨by rw [zPutc_len, mW_len, l1], fun i hi => ?_⟩
  rw [zPutc_len] at hi
  rw [mW_19]
  by_cases e : i = A 10 3
  · rw [if_pos (e.trans l1), e]; unfold zPutc; rw [zU_s]
  · rw [if_neg (by omega), ← l2 i (by omega)]; unfold zPutc; rw [zU_j e, zU_o (by decide), zSbR_b (by omega)]
theorem zLn.puti (L : zLn A B) (Z : zSB A) (h : A 10 3 + 2 ≤ 34) {x : Nat} (hx : x < 12) : zLn (zPuti A x) (mWn B x) := by
  obtain ⟨l1, l2⟩ := L
  have hcnt := Z.2.2.1
  by_cases h9 : x ≤ 9
  · have hz : zSz x = 1 := by unfold zSz; rw [if_pos h9]
    have eW : mWn B x = mW B (48 + x) := by unfold mWn; rw [if_pos (by omega)]
    rw [eW]
    refine ⟨by rw [zPuti_len, mW_len, l1, hz], fun i hi => ?_⟩
    rw [zPuti_len, hz] at hi
    have e0 : zPuti A x 11 i = if i = A 10 3 then 48 + x else A 11 i := by
      unfold zPuti
      rw [zU_o (by decide), hz]
      unfold zDgs
      rw [if_pos h9]
      by_cases e : i = A 10 3
      · rw [if_pos e, e, show A 10 3 + 1 - 1 = A 10 3 from by omega, zU_s]; omega
      · rw [if_neg e, zU_j (by omega), zSbR_b (by omega)]
    rw [e0, mW_19, ← l1]
    by_cases e : i = A 10 3
    · rw [if_pos e, if_pos e]
    · rw [if_neg e, if_neg e]; exact l2 i (by omega)
  · have hz : zSz x = 2 := by unfold zSz; rw [if_neg h9]
    have eW : mWn B x = mW (mW B (48 + x / 10)) (48 + x % 10) := by unfold mWn; rw [if_neg (by omega)]
    rw [eW]
    refine ⟨by rw [zPuti_len, mW_len, mW_len, l1, hz], fun i hi => ?_⟩
    rw [zPuti_len, hz] at hi
    have e0 : zPuti A x 11 i = if i = A 10 3 + 1 then 48 + x % 10 else if i = A 10 3 then 48 + x / 10 else A 11 i := by
      unfold zPuti
      rw [zU_o (by decide), hz]
      unfold zDgs
      rw [if_neg h9, show A 10 3 + 2 - 1 - 1 = A 10 3 from by omega, show A 10 3 + 2 - 1 = A 10 3 + 1 from by omega]
      by_cases e : i = A 10 3
      · rw [if_neg (by omega), if_pos e, e, zU_s]
      · rw [zU_j e]
        by_cases e2 : i = A 10 3 + 1
        · rw [if_pos e2, e2, zU_s]
        · rw [if_neg e2, if_neg e, zU_j e2, zSbR_b (by omega)]
    rw [e0, mW_19, mW_19, mW_len, ← l1]
    by_cases e2 : i = A 10 3 + 1
    · rw [if_pos e2, if_pos e2]
    · rw [if_neg e2, if_neg e2]
      by_cases e : i = A 10 3
      · rw [if_pos e, if_pos e]
      · rw [if_neg e, if_neg e]; exact l2 i (by omega)
theorem tie_sgn (T : zTie A 25 (B 13)) {x e : Nat} (hx : x < 4) : zSgn A x e = mSg (B 13) x e := by
  obtain ⟨-, -, -, r3, r4⟩ := T.r hx
  unfold zSgn mSg; rw [r3, r4]
/-- a rumour's line -/
theorem tie_rr (T : zTie A 25 (B 13)) (G : zGd A 25) (Z : zSB A) (hn : A 26 0 = n) {x : Nat} (hx : x < A 25 4) : zLn (zRR A n x) (mRR B n x) ∧ zSB (zRR A n x) ∧ zRR A n x 10 3 ≤ 17 := by
  have hx4 : x < 4 := Nat.lt_of_lt_of_le hx G.2.1
  have hz : n ≤ 12 := hn ▸ G.1
  obtain ⟨r0, r1, -, -, -⟩ := T.r hx4
  obtain ⟨f1, f2, -, -⟩ := G.r hx4
  have B0 := zEmp_sb Z
  have l0 : zEmp A 10 3 = 0 := zEmp_len
  have B1 := zPutc_sb (c := 114) B0 (by omega) (by decide)
  have L1 := zLn.putc (c := 114) (zLn.emp (A := A) (B := B)) B0 (by omega)
  have l1 : zPutc (zEmp A) 114 10 3 = 1 := by rw [zPutc_len, l0]
  have B2 := zPuti_sb (x := x) B1 (by omega) (by omega)
  have L2 := L1.puti (x := x) B1 (by omega) (by omega)
  have l2 : zPuti (zPutc (zEmp A) 114) x 10 3 = 2 := by rw [zPuti_len, l1]; unfold zSz; rw [if_pos (by omega)]
  have B3 := zPutc_sb (c := 58) B2 (by omega) (by decide)
  have L3 := L2.putc (c := 58) B2 (by omega)
  have l3 : zPutc (zPuti (zPutc (zEmp A) 114) x) 58 10 3 = 3 := by rw [zPutc_len, l2]
  have B4 : zSB (zRR0 A x) := zPuti_sb (x := A (33 + 2 * x) 1) B3 (by omega) (by omega)
  have L4 : zLn (zRR0 A x) (mRR0 B x) := by
    have h := L3.puti (x := A (33 + 2 * x) 1) B3 (by omega) (by omega)
    unfold mRR0; rw [r0]; exact h
  have l4 : zRR0 A x 10 3 = 4 := by unfold zRR0; rw [zPuti_len, l3]; unfold zSz; rw [if_pos (by omega)]
  have h1 : zLn (zRR1 A x) (mRR1 B x) ∧ zSB (zRR1 A x) ∧ zRR1 A x 10 3 ≤ 5 := by
    unfold zRR1 mRR1
    have e := r1 hx
    by_cases h : A (33 + 2 * x) 2 = 0
    · rw [if_pos h, if_pos (by omega)]
      exact ⟨L4.putc B4 (by omega), zPutc_sb B4 (by omega) (by decide), by rw [zPutc_len]; omega⟩
    · rw [if_neg h, if_neg (by omega)]
      exact ⟨L4, B4, by omega⟩
  have hall : ∀ m, m ≤ n → zLn (zIt (fun e q => zPutc q (zSgn A x e)) m (zRR1 A x)) (zIt (fun e q => mW q (mSg (B 13) x e)) m (mRR1 B x)) ∧ zSB (zIt (fun e q => zPutc q (zSgn A x e)) m (zRR1 A x)) ∧ zIt (fun e q => zPutc q (zSgn A x e)) m (zRR1 A x) 10 3 ≤ 5 + m := by
    intro m
    induction m with
    | zero => intro _; exact h1
    | succ m ih =>
      intro hm
      obtain ⟨i1, i2, i3⟩ := ih (by omega)
      rw [zIt, zIt, ← tie_sgn T hx4]
      exact ⟨i1.putc i2 (by omega), zPutc_sb i2 (by omega) zSgn_lt, by rw [zPutc_len]; omega⟩
  have := hall n (Nat.le_refl _)
  exact ⟨this.1, this.2.1, by have := this.2.2; unfold zRR; omega⟩
/-- a hive's line -/
theorem tie_rh (T : zTie A 25 (B 13)) (G : zGd A 25) (Z : zSB A) (hn : A 26 0 = n) {x : Nat} : zLn (zRH A n x) (mRH B n x) ∧ zSB (zRH A n x) ∧ zRH A n x 10 3 ≤ 26 := by
  have hz : n ≤ 12 := hn ▸ G.1
  have hall : ∀ m, m ≤ n → zLn (zIt (fun e q => zRHs (zMem A n x) e q) m (zEmp A)) (zIt (fun e q => mRHs (B 13) x e q) m (mLn B)) ∧ zSB (zIt (fun e q => zRHs (zMem A n x) e q) m (zEmp A)) ∧ zIt (fun e q => zRHs (zMem A n x) e q) m (zEmp A) 10 3 ≤ 2 * m + (m - 10) := by
    intro m
    induction m with
    | zero => intro _; exact ⟨zLn.emp, zEmp_sb Z, Nat.le_of_eq zEmp_len⟩
    | succ m ih =>
      intro hm
      obtain ⟨i1, i2, i3⟩ := ih (by omega)
      rw [zIt, zIt]
      obtain ⟨q, hq⟩ : ∃ q, zIt (fun e q => zRHs (zMem A n x) e q) m (zEmp A) = q := ⟨_, rfl⟩
      obtain ⟨p, hp⟩ : ∃ p, zIt (fun e q => mRHs (B 13) x e q) m (mLn B) = p := ⟨_, rfl⟩
      rw [hq] at i1 i2 i3 ⊢
      rw [hp] at i1 ⊢
      have eb : (zMem A n x).testBit m = decide (A 30 m = x) := by
        unfold zMem; rw [zmask_bit, decide_eq_true (show m < n by omega), Bool.true_and]
      have ev : B 13 (5 + m) = A 30 m := (T.e (e := m) (by omega)).1
      have hs := zSz_le (x := m)
      unfold zRHs mRHs
      rw [eb, ev]
      by_cases h : A 30 m = x
      · rw [if_pos (decide_eq_true h), if_pos h, ← i1.1]
        by_cases h0 : 0 < q 10 3
        · rw [if_pos h0, if_pos h0]
          have c2 := zPutc_sb (c := 44) i2 (by omega) (by decide)
          have cl : zPutc q 44 10 3 = q 10 3 + 1 := zPutc_len
          refine ⟨(i1.putc i2 (by omega)).puti c2 (by omega) (by omega), zPuti_sb c2 (by omega) (by omega), ?_⟩
          rw [zPuti_len, cl]; unfold zSz; split <;> omega
        · rw [if_neg h0, if_neg h0]
          refine ⟨i1.puti i2 (by omega) (by omega), zPuti_sb i2 (by omega) (by omega), ?_⟩
          rw [zPuti_len]; unfold zSz; split <;> omega
      · rw [if_neg (by rw [decide_eq_false h]; decide), if_neg h]
        exact ⟨i1, i2, by omega⟩
  have := hall n (Nat.le_refl _)
  exact ⟨this.1, this.2.1, by have := this.2.2; unfold zRH; omega⟩
theorem zRR_o {x a b : Nat} (h : a ≠ 10) (h2 : a ≠ 11) : zRR A n x a b = A a b := by
  unfold zRR
  exact zIt_inv (fun q : zS => q a b = A a b) (zRR1_o h h2) (fun _ _ _ hp => (zPutc_o h h2).trans hp)
theorem zRH_o {x a b : Nat} (h : a ≠ 10) (h2 : a ≠ 11) : zRH A n x a b = A a b := by
  unfold zRH
  exact zIt_inv (fun q : zS => q a b = A a b) (zEmp_o h) (fun _ _ _ hp => (zRHs_o h h2).trans hp)
theorem mRR_o {x a b : Nat} (h : a ≠ 19) (h2 : a ≠ 12) : mRR B n x a b = B a b := by
  unfold mRR
  exact zIt_inv (fun q : zS => q a b = B a b) (mRR1_o h h2) (fun _ _ _ hp => (mW_o h (Or.inl h2)).trans hp)
theorem mRH_o {x a b : Nat} (h : a ≠ 19) (h2 : a ≠ 12) : mRH B n x a b = B a b := by
  unfold mRH
  exact zIt_inv (fun q : zS => q a b = B a b) (mLn_o h2) (fun _ _ _ hp => (mRHs_o h (Or.inl h2)).trans hp)
theorem mLn_12 {b : Nat} (h : b ≠ 18) (h2 : b ≠ 0) : mLn B 12 b = B 12 b := by unfold mLn; rw [zU_j h, zU_j h2]
theorem mLn_0 : mLn B 12 0 = 0 := by unfold mLn; rw [zU_j (by decide), zU_s]
theorem mRR_12 {x b : Nat} (h : b ≠ 18) : mRR B n x 12 b = mLn B 12 b := by
  unfold mRR
  refine zIt_inv (fun q : zS => q 12 b = mLn B 12 b) ?_ (fun _ _ _ hp => (mW_o (by decide) (Or.inr h)).trans hp)
  have h0 : mRR0 B x 12 b = mLn B 12 b := by unfold mRR0; rw [mWn_o (by decide) (Or.inr h), mW_o (by decide) (Or.inr h), mWn_o (by decide) (Or.inr h), mW_o (by decide) (Or.inr h)]
  unfold mRR1; split
  · rw [mW_o (by decide) (Or.inr h), h0]
  · exact h0
theorem mRH_12 {x b : Nat} (h : b ≠ 18) : mRH B n x 12 b = mLn B 12 b := by
  unfold mRH
  exact zIt_inv (fun q : zS => q 12 b = mLn B 12 b) rfl (fun _ _ _ hp => (mRHs_o (by decide) (Or.inr h)).trans hp)
/-! the state put by -/
def zSn (A B : zS) : Prop := A 0 7 = B 12 4 ∧ A 0 7 ≤ 1 ∧ (¬ A 0 7 = 0 → zTie A 57 (B 15) ∧ zGd A 57)
theorem tie_save (T : zTie A 25 (B 13)) (G : zGd A 25) : zSn (zU (zScCp A 57 25) 0 7 1) (zU (zCp (zU B 12 0 0) 13 15 109) 12 4 1) := by
  have f : ∀ a k, 57 ≤ a → a < 57 + 16 → zU (zScCp A 57 25) 0 7 1 a k = zScCp A 57 25 a k := fun a k h _ => zU_o (by omega)
  refine ⟨by rw [zU_s, zU_s], by rw [zU_s]; exact Nat.le_refl _, fun _ => ⟨((T.cp (b := 57) (Or.inr (by decide))).far f).row (fun k hk => ?_), (G.cp (b := 57) (Or.inr (by decide))).far f⟩⟩
  rw [zU_o (by decide), zCp_at hk, zU_o (by decide)]
theorem tie_restore (H : zSn A B) (h0 : ¬ A 0 7 = 0) : A 58 0 = B 15 0 ∧ zTie (zU (zScCp A 25 57) 1 1 0) 25 (zU (zCp (zU B 12 0 0) 15 13 109) 12 1 0 13) ∧ zGd (zU (zScCp A 25 57) 1 1 0) 25 ∧ zAlv A 57 := by
  obtain ⟨T, G⟩ := H.2.2 h0
  have f : ∀ a k, 25 ≤ a → a < 25 + 16 → zU (zScCp A 25 57) 1 1 0 a k = zScCp A 25 57 a k := fun a k h _ => zU_o (by omega)
  refine ⟨T.1.symm, ((T.cp (b := 25) (Or.inl (by decide))).far f).row (fun k hk => ?_), (G.cp (b := 25) (Or.inl (by decide))).far f, fun r hr => (G.2.2.2.2.2.1 r hr).2.1⟩
  rw [zU_o (by decide), zCp_at hk, zU_o (by decide)]
end LN
