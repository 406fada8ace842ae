/-! a command of the class's and of the model's -/
section CM
variable {A : zS} {p : Nat}
theorem zWl_wL {k : Nat} : zWl k = wL (min k 8) := rfl
theorem min_w {w : Nat} (h : w < 9) : min w 8 = w := by omega
theorem zTake_ge {w r m f s : Nat} : r ≤ (zTake A w r m f s).2.1 := by
  unfold zTake
  split
  · exact (zDig_ge _ _ _).1
  · split
    · show r ≤ r + 1; omega
    · exact Nat.le_refl _
theorem zMt_ge {k : Nat} : ∀ (n i r m f s : Nat), r ≤ (zMt A k n i r m f s).2.1 := by
  intro n
  induction n with
  | zero => intro i r m f s; exact Nat.le_refl _
  | succ n ih =>
    intro i r m f s
    rw [zMt]
    split
    · exact Nat.le_trans zTake_ge (ih _ _ _ _ _)
    · exact zTake_ge
/-- what a form reaches, if its word stands there -/
theorem zReach_full {k : Nat} (hk : k < 10) (h : wM (zSg A) p (min k 8) (zWl k) = true) : p + zWl k ≤ (zMatch A k p).2.1 ∧ zMatch A k p = zMt A k (zFl k - zWl k) (zWl k) (p + zWl k) 0 0 0 := by
  rcases zMatch_lit (A := A) (p := p) hk with ⟨-, h2⟩ | ⟨j, h1, h2, h3, h4⟩
  · refine ⟨?_, h2⟩
    rw [h2]
    exact zMt_ge _ _ _ _ _ _
  · have := wM_low _ _ (show j + 1 ≤ zWl k by omega) h
    rw [h3] at this; cases this
theorem zReach_other {k w : Nat} (hk : k < 10) (hw : w < 9) (h : wM (zSg A) p w (wL w) = true) (hne : min k 8 ≠ w) : (zMatch A k p).2.1 ≤ p + 1 := by
  have hl := wL_is hw
  have h2 : wM (zSg A) p w 2 = true := wM_low _ _ (by omega) h
  have hkl := wL_is (show min k 8 < 9 by omega)
  have hno : ∀ n, 2 ≤ n → wM (zSg A) p (min k 8) n = false := fun n hn => by
    cases hb : wM (zSg A) p (min k 8) n with
    | false => rfl
    | true => exact absurd (wM_one (by omega) hw (wM_low _ _ hn hb) h2) hne
  rcases zMatch_lit (A := A) (p := p) hk with ⟨h3, -⟩ | ⟨j, h3, h4, h5, h6⟩
  · rw [zWl_wL, hno _ (by omega)] at h3; cases h3
  · rw [h6]
    rcases Nat.lt_or_ge j 2 with hj | hj
    · show p + j ≤ p + 1; omega
    · rw [hno j hj] at h4; cases h4
/-- the numbers that stand behind a word -/
def zD1 (k : Nat) : Nat := [35, 64, 64, 64, 35, 35, 35, 64, 0, 32].getD k 0
def zD2 (k : Nat) : Nat := [35, 64, 64, 35, 64, 0, 35, 35, 0, 64].getD k 0
theorem zTwo0 : ∀ k : Fin 8, k.val ≠ 5 → zFl k.val - zWl k.val = 3 ∧ zFch k.val (zWl k.val) = zD1 k.val ∧ zFch k.val (zWl k.val + 1) = 32 ∧ zFch k.val (zWl k.val + 1 + 1) = zD2 k.val ∧ ((zD1 k.val = 35 ∧ mK1 k.val = 1) ∨ (zD1 k.val = 64 ∧ mK1 k.val = 2)) ∧ ((zD2 k.val = 35 ∧ mK2 k.val = 1) ∨ (zD2 k.val = 64 ∧ mK2 k.val = 2)) := by decide +kernel
theorem zTwo {k : Nat} (hk : k < 8) (h5 : k ≠ 5) : zFl k - zWl k = 3 ∧ zFch k (zWl k) = zD1 k ∧ zFch k (zWl k + 1) = 32 ∧ zFch k (zWl k + 1 + 1) = zD2 k ∧ ((zD1 k = 35 ∧ mK1 k = 1) ∨ (zD1 k = 64 ∧ mK1 k = 2)) ∧ ((zD2 k = 35 ∧ mK2 k = 1) ∨ (zD2 k = 64 ∧ mK2 k = 2)) := zTwo0 ⟨k, hk⟩ h5
/-- a command read alike -/
def zCmT (A : zS) (p : Nat) : Prop :=
  ((zMatch A (zFur A p).1 p).1 = true ∧ mCm (zSg A) p = (min (zFur A p).1 8, (if (zFur A p).1 = 8 then 1 else (zMatch A (zFur A p).1 p).2.2.2.1), (zMatch A (zFur A p).1 p).2.2.2.2, (zMatch A (zFur A p).1 p).2.1, 0, (mCm (zSg A) p).2.2.2.2.2)) ∨
  ((zMatch A (zFur A p).1 p).1 = false ∧ (mCm (zSg A) p).2.2.2.1 = (zMatch A (zFur A p).1 p).2.1 ∧ (mCm (zSg A) p).2.2.2.2.1 = 1)
theorem tie_cmd_none (hf : ∀ w, w < 9 → wM (zSg A) p w (wL w) = false) : zCmT A p := by
  obtain ⟨k1, k2, k3⟩ := zFur_is (A := A) (p := p)
  obtain ⟨kd, hkd⟩ : ∃ kd, (zFur A p).1 = kd := ⟨_, rfl⟩
  unfold zCmT
  rw [hkd] at k1 k2 k3 ⊢
  have hr : ∀ k, k < 10 → ∃ j, wM (zSg A) p (min k 8) j = true ∧ wM (zSg A) p (min k 8) (j + 1) = false ∧ zMatch A k p = (false, p + j, 0, 0, 0) := fun k hk => by
    rcases zMatch_lit (A := A) (p := p) hk with ⟨h3, -⟩ | ⟨j, h3, h4, h5, h6⟩
    · rw [zWl_wL, hf _ (by omega)] at h3; cases h3
    · exact ⟨j, h4, h5, h6⟩
  obtain ⟨N, n1, n2, n3⟩ := hr kd k1
  have hN : ∀ w, w < 9 → wM (zSg A) p w (N + 1) = false := fun w hw => by
    cases hb : wM (zSg A) p w (N + 1) with
    | false => rfl
    | true =>
      obtain ⟨j, j1, j2, j3⟩ := hr w (by omega)
      rw [min_w hw] at j1 j2
      have hle := k2 w (by omega)
      rw [j3, n3] at hle
      have hle : p + j ≤ p + N := hle
      have := wM_low _ _ (show j + 1 ≤ N + 1 by omega) hb
      rw [j2] at this; cases this
  have hN7 : N ≤ 7 := by have := wM_len (show min kd 8 < 9 by omega) n1; have := (wL_is (show min kd 8 < 9 by omega)).2.1; omega
  have e := mWd_none hf (show min kd 8 < 9 by omega) n1 hN 8 0 (by omega) (by omega)
  right
  rw [n3]
  unfold mCm
  rw [e]
  exact ⟨rfl, rfl, rfl⟩
theorem tie_cmd_full {w : Nat} (hw : w < 9) (h : wM (zSg A) p w (wL w) = true) : zCmT A p := by
  have hl := wL_is hw
  obtain ⟨k1, k2, k3⟩ := zFur_is (A := A) (p := p)
  obtain ⟨kd, hkd⟩ : ∃ kd, (zFur A p).1 = kd := ⟨_, rfl⟩
  unfold zCmT
  rw [hkd] at k1 k2 k3 ⊢
  have hfw := zReach_full (A := A) (p := p) (k := w) (by omega) (by rw [zWl_wL, min_w hw]; exact h)
  have hkw : min kd 8 = w := by
    apply Classical.byContradiction
    intro hne
    have h1 := zReach_other k1 hw h hne
    have h2 := k2 w (by omega)
    rw [zWl_wL, min_w hw] at hfw
    have := hfw.1
    omega
  have hfull : wM (zSg A) p (min kd 8) (zWl kd) = true := by rw [zWl_wL, hkw]; exact h
  obtain ⟨f1, f2⟩ := zReach_full k1 hfull
  have e := mWd_full hw h 8 0 (by omega) (by omega)
  have eL : zWl kd = wL w := by rw [zWl_wL, hkw]
  by_cases h8 : w = 8
  · have ekd : kd = 8 ∨ kd = 9 := by omega
    have L8 : zWl 8 = 5 ∧ zWl 9 = 5 ∧ zFl 8 = 5 ∧ zFl 9 = 7 ∧ zFch 9 5 = 32 ∧ zFch 9 6 = 64 := by decide +kernel
    subst h8
    have hl8 : wL 8 = 5 := by decide +kernel
    have m8 : zMatch A 8 p = (true, p + 5, 0, 0, 0) := by
      have := (zReach_full (A := A) (p := p) (k := 8) (by decide) (by rw [zWl_wL]; exact h)).2
      rw [this, L8.1, L8.2.2.1]; rfl
    have m9 : zMatch A 9 p = if zSg A (p + 5) = 32 then (decide (p + 5 + 1 < (mDg (zSg A) 2 (p + 5 + 1) 0).1), (mDg (zSg A) 2 (p + 5 + 1) 0).1, 1, (mDg (zSg A) 2 (p + 5 + 1) 0).2, 0) else (false, p + 5, 0, 0, 0) := by
      have := (zReach_full (A := A) (p := p) (k := 9) (by decide) (by rw [zWl_wL]; exact h)).2
      rw [this, L8.2.1, L8.2.2.2.1, show 7 - 5 = 1 + 1 from rfl, zMt, L8.2.2.2.2.1, zTake_lit (by decide) (by decide) (by decide)]
      by_cases hs : zSg A (p + 5) = 32
      · rw [if_pos hs, if_pos hs, if_pos rfl]
        exact zMt_one (i := 5 + 1) (Or.inr ⟨rfl, rfl⟩) L8.2.2.2.2.2
      · rw [if_neg hs, if_neg hs]; rfl
    have hge := mDg_ge (sg := zSg A) 2 (p + 5 + 1) 0
    unfold mCm
    rw [e, hl8]
    dsimp only
    rw [if_pos rfl, if_pos rfl]
    by_cases hs : zSg A (p + 5) = 32
    · have k9 : kd = 9 := by
        rcases ekd with e8 | e9
        · have := k2 9 (by decide)
          rw [e8, m8, m9, if_pos hs] at this
          have : (mDg (zSg A) 2 (p + 5 + 1) 0).1 ≤ p + 5 := this
          omega
        · exact e9
      subst k9
      rw [m9, if_pos hs, if_pos hs]
      unfold mBh
      rw [if_pos hs]
      by_cases hd : p + 5 + 1 < (mDg (zSg A) 2 (p + 5 + 1) 0).1
      · left
        refine ⟨decide_eq_true hd, ?_⟩
        dsimp only
        rw [if_neg (show ¬ (mDg (zSg A) 2 (p + 5 + 1) 0).1 = p + 5 + 1 by omega)]
        rfl
      · right
        refine ⟨decide_eq_false hd, rfl, ?_⟩
        dsimp only
        rw [if_pos (by omega)]
    · have k8 : kd = 8 := by
        rcases ekd with e8 | e9
        · exact e8
        · have := k3 8 (by omega)
          rw [e9, m8, m9, if_neg hs] at this
          have : p + 5 < p + 5 := this
          omega
      subst k8
      rw [m8, if_neg hs]
      left
      exact ⟨rfl, rfl⟩
  · have ekd : kd = w := by omega
    subst ekd
    unfold mCm
    rw [e]
    dsimp only
    rw [if_pos rfl, if_neg h8]
    have hge := mDg_ge (sg := zSg A) (mK1 kd) (p + wL kd) 0
    by_cases h5 : kd = 5
    · subst h5
      have L5 : zFl 5 - zWl 5 = 1 ∧ zFch 5 (zWl 5) = 35 ∧ mK1 5 = 1 := by decide +kernel
      rw [L5.2.2] at hge ⊢
      rw [if_pos (Or.inl rfl), f2, L5.1, zMt_one (Or.inl ⟨rfl, rfl⟩) L5.2.1, eL]
      by_cases hd : p + wL 5 < (mDg (zSg A) 1 (p + wL 5) 0).1
      · left
        refine ⟨decide_eq_true hd, ?_⟩
        rw [if_neg (by omega)]; rfl
      · right
        refine ⟨decide_eq_false hd, rfl, ?_⟩
        dsimp only
        rw [if_pos (by omega)]
    · obtain ⟨t1, t2, t3, t4, t5, t6⟩ := zTwo (show kd < 8 by omega) h5
      rw [f2, zMt_two t5 t6 t2 t3 t4 t1, eL]
      by_cases hd : p + wL kd < (mDg (zSg A) (mK1 kd) (p + wL kd) 0).1
      · have hne : ¬ (kd = 5 ∨ (mDg (zSg A) (mK1 kd) (p + wL kd) 0).1 = p + wL kd) := by omega
        rw [if_pos hd, if_neg hne]
        unfold mBh
        by_cases hs : zSg A (mDg (zSg A) (mK1 kd) (p + wL kd) 0).1 = 32
        · rw [if_pos hs, if_pos hs]
          have hg2 := mDg_ge (sg := zSg A) (mK2 kd) ((mDg (zSg A) (mK1 kd) (p + wL kd) 0).1 + 1) 0
          by_cases hd2 : (mDg (zSg A) (mK1 kd) (p + wL kd) 0).1 + 1 < (mDg (zSg A) (mK2 kd) ((mDg (zSg A) (mK1 kd) (p + wL kd) 0).1 + 1) 0).1
          · left
            refine ⟨decide_eq_true hd2, ?_⟩
            dsimp only
            rw [if_neg (show ¬ (mDg (zSg A) (mK2 kd) ((mDg (zSg A) (mK1 kd) (p + wL kd) 0).1 + 1) 0).1 = (mDg (zSg A) (mK1 kd) (p + wL kd) 0).1 + 1 by omega), if_neg h8, min_w hw]
          · right
            refine ⟨decide_eq_false hd2, rfl, ?_⟩
            dsimp only
            rw [if_pos (by omega)]
        · right
          rw [if_neg hs, if_neg hs]
          exact ⟨rfl, rfl, rfl⟩
      · right
        have heq : kd = 5 ∨ (mDg (zSg A) (mK1 kd) (p + wL kd) 0).1 = p + wL kd := by omega
        rw [if_neg hd, if_pos heq]
        refine ⟨rfl, rfl, ?_⟩
        dsimp only
        rw [if_pos (by omega)]
theorem tie_cmd : zCmT A p := by
  by_cases h : ∀ w, w < 9 → wM (zSg A) p w (wL w) = false
  · exact tie_cmd_none h
  · obtain ⟨w, hw⟩ : ∃ w, ¬ (w < 9 → wM (zSg A) p w (wL w) = false) := Classical.byContradiction (fun hn => h (fun w => Classical.byContradiction (fun hc => hn ⟨w, hc⟩)))
    have hw9 : w < 9 := Classical.byContradiction (fun hc => hw (fun q => absurd q hc))
    exact tie_cmd_full hw9 (by
      cases hb : wM (zSg A) p w (wL w) with
      | true => rfl
      | false => exact absurd (fun _ => hb) hw)
end CM
