/-! reading on: what is kept, and how far -/
theorem mWd_ge {sg : Nat → Nat} {p : Nat} : ∀ (k n : Nat), p ≤ (mWd sg p k n).2.1 := by
  intro k
  induction k with
  | zero => intro n; exact Nat.le_add_right _ _
  | succ k ih =>
    intro n
    rw [mWd]
    split
    · exact Nat.le_add_right _ _
    · split
      · dsimp only; omega
      · exact ih (n + 1)
theorem mBh_ge {sg : Nat → Nat} {k h : Nat} : h ≤ (mBh sg k h).2.1 := by
  unfold mBh; split
  · have := (mDg_ge (sg := sg) k (h + 1) 0).1; dsimp only; omega
  · exact Nat.le_refl _
theorem mCm_is {S : zS} {h : Nat} (hh : h ≤ S 12 17) : (mCm (mS S) h).2.2.2.1 ≤ S 12 17 ∧ h ≤ (mCm (mS S) h).2.2.2.1 ∧ (mCm (mS S) h).2.2.2.2.1 ≤ 1 := by
  obtain ⟨⟨w, p1, wr, nf⟩, hr⟩ : ∃ T, mWd (mS S) h 8 0 = T := ⟨_, rfl⟩
  have hp1 := mWd_len hh 8 0 hh
  have hg1 := mWd_ge (sg := mS S) (p := h) 8 0
  rw [hr] at hp1 hg1
  dsimp only at hp1 hg1
  have hd := fun k => mDg_len (S := S) k p1 0 hp1
  have hdg := fun k => (mDg_ge (sg := mS S) k p1 0).1
  unfold mCm
  rw [hr]
  try dsimp only
  split
  · split
    · split
      · have hb := mBh_len (S := S) (k := 2) hp1
        have hbg := mBh_ge (sg := mS S) (k := 2) (h := p1)
        exact ⟨hb.1, by dsimp only; omega, hb.2.1⟩
      · exact ⟨hp1, hg1, Nat.zero_le _⟩
    · split
      · refine ⟨hd _, Nat.le_trans hg1 (hdg _), ?_⟩
        dsimp only; split <;> omega
      · have hb := mBh_len (S := S) (k := mK2 w) (hd (mK1 w))
        have hbg := mBh_ge (sg := mS S) (k := mK2 w) (h := (mDg (mS S) (mK1 w) p1 0).1)
        have := hdg (mK1 w)
        exact ⟨hb.1, by dsimp only; omega, hb.2.1⟩
  · exact ⟨hp1, hg1, Nat.le_refl _⟩
def mIv (Q : zS) : Prop := mNw Q ∧ mTx Q ∧ mWds Q ∧ Q 12 16 ≤ Q 12 17 ∧ Q 12 19 ≤ 1 ∧ Q 12 0 ≤ 3 ∧ Q 12 20 ≤ 1
theorem mTx.same {S Q : zS} (h : mTx S) (h1 : Q 12 17 = S 12 17) (h2 : ∀ b, Q 18 b = S 18 b) : mTx Q := ⟨by rw [h1]; exact h.1, fun k hk => by rw [h2]; exact h.2 k hk⟩
theorem mWds.same {S Q : zS} (h : mWds S) (h1 : ∀ b, Q 21 b = S 21 b) (h2 : ∀ b, Q 22 b = S 22 b) : mWds Q := ⟨fun k hk => by rw [h1]; exact h.1 k hk, fun k hk => by rw [h2]; exact h.2 k hk⟩
theorem mRd_12 {S : zS} {h w b : Nat} {L : Nat → Nat} (h1 : b ≠ 16) (h2 : b ≠ 19) : mRd S h w L 12 b = S 12 b := by
  unfold mRd; rw [if_neg (by omega), if_neg (by omega), if_neg (by omega)]
theorem mCmE_iv {S : zS} {n t h : Nat} (hm : mNow S n t) (htx : mTx S) (hW : mWds S) (hh : h ≤ S 12 17) (h0 : S 12 0 ≤ 3) (h20 : S 12 20 ≤ 1) : mIv (mCmE S n t h) ∧ h ≤ mCmE S n t h 12 16 ∧ mCmE S n t h 12 17 = S 12 17 := by
  have hc := mCm_is hh
  obtain ⟨⟨w, x, y, p, wr, nf⟩, hC⟩ : ∃ T, mCm (mS S) h = T := ⟨_, rfl⟩
  rw [hC] at hc
  dsimp only at hc
  rw [mCmE_of hC]
  have hmR : ∀ h' w' L', mNow (mRd S h' w' L') n t := fun _ _ _ => mNow_row (fun b _ => mRd_at (by decide) (by decide)) hm
  have ht17 : ∀ h' w' L', mRd S h' w' L' 12 17 = S 12 17 := fun _ _ _ => mRd_12 (by decide) (by decide)
  split
  · rename_i hd
    have hD := mDoes_nw (w := w) (x := x) (y := y) (hmR p 0 (mWL (mS S) h nf))
    have ho : ∀ a b, a ≠ 13 → (a ≠ 12 ∨ b ≠ 0) → (mDoes (mRd S p 0 (mWL (mS S) h nf)) n t w x y).2 a b = mRd S p 0 (mWL (mS S) h nf) a b := fun a b ha hb => mDoes_o ha hb
    have e17 := (ho 12 17 (by decide) (Or.inr (by decide))).trans (ht17 _ _ _)
    have e16 : (mDoes (mRd S p 0 (mWL (mS S) h nf)) n t w x y).2 12 16 = p := ho 12 16 (by decide) (Or.inr (by decide))
    refine ⟨⟨hD, htx.same e17 (fun b => (ho 18 b (by decide) (Or.inl (by decide))).trans (mRd_at (by decide) (by decide))), hW.same (fun b => (ho 21 b (by decide) (Or.inl (by decide))).trans (mRd_at (by decide) (by decide))) (fun b => (ho 22 b (by decide) (Or.inl (by decide))).trans (mRd_at (by decide) (by decide))), by rw [e16, e17]; exact hc.1, ?_, ?_, ?_⟩, by rw [e16]; exact hc.2.1, e17⟩
    · rw [ho 12 19 (by decide) (Or.inr (by decide))]; exact Nat.zero_le _
    · exact mDoes_12 (by rw [mRd_12 (by decide) (by decide)]; exact h0)
    · rw [ho 12 20 (by decide) (Or.inr (by decide)), mRd_12 (by decide) (by decide)]; exact h20
  · refine ⟨⟨(hmR _ _ _).nw, htx.same (ht17 _ _ _) (fun b => mRd_at (by decide) (by decide)), hW.same (fun b => mRd_at (by decide) (by decide)) (fun b => mRd_at (by decide) (by decide)), ?_, ?_, ?_, ?_⟩, hc.2.1, ht17 _ _ _⟩
    · rw [ht17]; exact hc.1
    · exact hc.2.2
    · rw [mRd_12 (by decide) (by decide)]; exact h0
    · rw [mRd_12 (by decide) (by decide)]; exact h20
/-- the next command behind its mark -/
def mNx (Q : zS) : zS := if mS Q (Q 12 16) = 59 then mCmE Q (Q 13 0) (Q 13 1) (Q 12 16 + 1) else mRd Q (Q 12 16) 1 (Q 20)
def mCsL : Nat → Nat → zS → Nat × zS
  | 0, c, Q => (c, Q)
  | k + 1, c, Q => if Q 12 19 = 0 ∧ Q 12 0 = 0 ∧ Q 12 16 < Q 12 17 then mCsL k (c + 1) (mNx Q) else (c, Q)
def mCs (S : zS) : Nat × zS := mCsL 61 1 (mCmE S (S 13 0) (S 13 1) 0)
theorem mNx_iv {Q : zS} (h : mIv Q) (hlt : Q 12 16 < Q 12 17) : mIv (mNx Q) ∧ Q 12 16 + 1 ≤ mNx Q 12 16 + mNx Q 12 19 ∧ mNx Q 12 17 = Q 12 17 := by
  obtain ⟨hm, htx, hW, hh, hw, h0, h20⟩ := h
  unfold mNx
  split
  · have h := mCmE_iv hm htx hW (show Q 12 16 + 1 ≤ Q 12 17 from hlt) h0 h20
    exact ⟨h.1, by omega, h.2.2⟩
  · refine ⟨⟨mNow.nw (mNow_row (fun b _ => mRd_at (by decide) (by decide)) hm), htx.same (mRd_12 (by decide) (by decide)) (fun b => mRd_at (by decide) (by decide)), hW.same (fun b => mRd_at (by decide) (by decide)) (fun b => mRd_at (by decide) (by decide)), ?_, Nat.le_refl 1, ?_, ?_⟩, Nat.le_refl _, mRd_12 (by decide) (by decide)⟩
    · rw [mRd_12 (b := 17) (by decide) (by decide)]; exact hh
    · rw [mRd_12 (by decide) (by decide)]; exact h0
    · rw [mRd_12 (by decide) (by decide)]; exact h20
theorem mCsL_iv : ∀ (k c : Nat) (Q : zS), mIv Q → mIv (mCsL k c Q).2 ∧ (mCsL k c Q).1 ≤ c + k ∧ c ≤ (mCsL k c Q).1 ∧ (mCsL k c Q).2 12 17 = Q 12 17 := by
  intro k
  induction k with
  | zero => intro c Q h; exact ⟨h, Nat.le_refl _, Nat.le_refl _, rfl⟩
  | succ k ih =>
    intro c Q h
    rw [mCsL]
    split
    · rename_i hc
      have h2 := mNx_iv h hc.2.2
      have h3 := ih (c + 1) (mNx Q) h2.1
      exact ⟨h3.1, by omega, by omega, h3.2.2.2.trans h2.2.2⟩
    · exact ⟨h, by dsimp only; omega, Nat.le_refl _, rfl⟩
theorem mRd_00 {S : zS} : zU (zU S 12 16 0) 12 19 0 = mRd S 0 0 (S 20) := by
  have h : zU (zU (mRd S (S 12 16) (S 12 19) (S 20)) 12 16 0) 12 19 0 = mRd S 0 0 (S 20) := by rw [mRd_16, mRd_19]
  rw [mRd_self] at h; exact h

/-- a script's run in the model -/
def mRn0 (S : zS) : zS := zU (zU (zU (mBeg S) 12 17 (S 12 15)) 12 15 0) 12 20 0
def mRn1 (S : zS) : Nat × zS := mCs (zU (mCs (mRn0 S)).2 12 20 1)
def mRn2 (S : zS) : zS := if (mRn1 S).2 12 0 = 0 then (mRn1 S).2 else zU (zU (mRn1 S).2 12 3 ((mRn1 S).1 - 1)) 12 0 2
def mRun (S : zS) : Nat × zS := if (mCs (mRn0 S)).2 12 19 = 0 then mEnd (mRn2 S) (mRn1 S).1 else mFl (zU (mCs (mRn0 S)).2 12 2 ((mCs (mRn0 S)).2 12 16)) 1
def mCh (S : zS) : Prop := S 12 15 ≤ 60 ∧ (∀ k, k < 60 → S 18 k < 65536) ∧ mWds S ∧ S 12 1 ≤ 8
theorem mRn0_o {S : zS} {a b : Nat} (h : a ≠ 14) (h2 : a ≠ 12) : mRn0 S a b = S a b := by
  unfold mRn0; rw [zU_o h2, zU_o h2, zU_o h2]; exact mBeg_o h (Or.inl h2)
theorem mRn0_ok {S : zS} (hm : mNw S) (hch : mCh S) : mNw (mRn0 S) ∧ mTx (mRn0 S) ∧ mWds (mRn0 S) ∧ mRn0 S 12 0 ≤ 3 ∧ mRn0 S 12 20 = 0 ∧ mRn0 S 12 1 ≤ 8 := by
  have e17 : mRn0 S 12 17 = S 12 15 := by unfold mRn0; rw [zU_j (by decide), zU_j (by decide), zU_s]
  refine ⟨mNow.nw (mNow_row (fun b _ => mRn0_o (by decide) (by decide)) hm), ⟨by rw [e17]; exact hch.1, fun k hk => by rw [mRn0_o (by decide) (by decide)]; exact hch.2.1 k hk⟩, hch.2.2.1.same (fun b => mRn0_o (by decide) (by decide)) (fun b => mRn0_o (by decide) (by decide)), ?_, ?_, ?_⟩
  · unfold mRn0; rw [zU_j (by decide), zU_j (by decide), zU_j (by decide), mBeg_12]; decide
  · unfold mRn0; rw [zU_s]
  · unfold mRn0; rw [zU_j (by decide), zU_j (by decide), zU_j (by decide), mBeg_o (by decide) (Or.inr (by decide))]; exact hch.2.2.2
theorem mCmE_12 {S : zS} {n t h b : Nat} (h1 : b ≠ 0) (h2 : b ≠ 16) (h3 : b ≠ 19) : mCmE S n t h 12 b = S 12 b := by
  obtain ⟨⟨w, x, y, p, wr, nf⟩, hC⟩ : ∃ T, mCm (mS S) h = T := ⟨_, rfl⟩
  rw [mCmE_of hC]
  split
  · rw [mDoes_o (by decide) (Or.inr h1)]; exact mRd_12 h2 h3
  · exact mRd_12 h2 h3
theorem mNx_12 {Q : zS} {b : Nat} (h1 : b ≠ 0) (h2 : b ≠ 16) (h3 : b ≠ 19) : mNx Q 12 b = Q 12 b := by
  unfold mNx; split
  · exact mCmE_12 h1 h2 h3
  · exact mRd_12 h2 h3
theorem mCsL_12 {b : Nat} (h1 : b ≠ 0) (h2 : b ≠ 16) (h3 : b ≠ 19) : ∀ (k c : Nat) (Q : zS), (mCsL k c Q).2 12 b = Q 12 b := by
  intro k
  induction k with
  | zero => intro c Q; rfl
  | succ k ih =>
    intro c Q
    rw [mCsL]; split
    · exact (ih _ _).trans (mNx_12 h1 h2 h3)
    · rfl
theorem mCs_12 {S : zS} {b : Nat} (h1 : b ≠ 0) (h2 : b ≠ 16) (h3 : b ≠ 19) : (mCs S).2 12 b = S 12 b := (mCsL_12 h1 h2 h3 _ _ _).trans (mCmE_12 h1 h2 h3)
theorem mCs_iv {S : zS} (hm : mNw S) (htx : mTx S) (hW : mWds S) (h0 : S 12 0 ≤ 3) (h20 : S 12 20 ≤ 1) : mIv (mCs S).2 ∧ 1 ≤ (mCs S).1 ∧ (mCs S).1 ≤ 62 := by
  have h := mCmE_iv hm htx hW (Nat.zero_le (S 12 17)) h0 h20
  have h2 := mCsL_iv 61 1 (mCmE S (S 13 0) (S 13 1) 0) h.1
  exact ⟨h2.1, h2.2.2.1, by unfold mCs; omega⟩
