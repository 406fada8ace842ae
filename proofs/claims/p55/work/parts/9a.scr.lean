/-! a command of a script, tied -/
/-- the sign of the text at a place -/
def zSg (A : zS) (q : Nat) : Nat := if q < A 5 1 then A 6 q else 4294967295
section SC
variable {A : zS}
theorem zSg_lit {r w : Nat} (hw : w < 4294967295) : (r < A 5 1 ∧ A 6 r = w) ↔ zSg A r = w := by
  unfold zSg
  by_cases h : r < A 5 1
  · rw [if_pos h]; exact ⟨fun q => q.2, fun q => ⟨h, q⟩⟩
  · rw [if_neg h]; exact ⟨fun q => absurd q.1 h, fun q => by omega⟩
theorem zSg_dgt {p : Nat} : zDgt A p = true ↔ 48 ≤ zSg A p ∧ zSg A p ≤ 57 := by
  unfold zDgt zSg
  by_cases h : p < A 5 1
  · simp [h]
  · simp [h]
theorem zSg_dig : ∀ (k p v : Nat), zDig A k p v = mDg (zSg A) k p v := by
  intro k
  induction k with
  | zero => intro p v; rfl
  | succ k ih =>
    intro p v
    rw [zDig, mDg]
    by_cases h : zDgt A p = true
    · have hs := zSg_dgt.mp h
      rw [if_pos h, if_pos hs]
      have e : A 6 p = zSg A p := by
        unfold zSg at hs ⊢
        by_cases hp : p < A 5 1
        · rw [if_pos hp]
        · rw [if_neg hp] at hs; omega
      rw [e]; exact ih _ _
    · rw [if_neg h, if_neg (fun q => h (zSg_dgt.mpr q))]
theorem zTake_lit {w r m f s : Nat} (hw : w < 128) (h1 : w ≠ 35) (h2 : w ≠ 64) : zTake A w r m f s = if zSg A r = w then (true, r + 1, m, f, s) else (false, r, m, f, s) := by
  unfold zTake
  rw [if_neg (by omega)]
  by_cases h : zSg A r = w
  · rw [if_pos ((zSg_lit (by omega)).mpr h), if_pos h]
  · rw [if_neg (fun q => h ((zSg_lit (by omega)).mp q)), if_neg h]
theorem zTake_n {w r m f s d : Nat} (hw : (w = 35 ∧ d = 1) ∨ (w = 64 ∧ d = 2)) : zTake A w r m f s = (decide (r < (mDg (zSg A) d r 0).1), (mDg (zSg A) d r 0).1, m + 1, (if m = 0 then (mDg (zSg A) d r 0).2 else f), (if m = 0 then s else (mDg (zSg A) d r 0).2)) := by
  unfold zTake
  rcases hw with ⟨rfl, rfl⟩ | ⟨rfl, rfl⟩
  · rw [if_pos (Or.inl rfl)]; simp only [zSg_dig]; rfl
  · rw [if_pos (Or.inr rfl)]; simp only [zSg_dig]; rfl
/-- the letters of a form are its word's -/
def zWl (k : Nat) : Nat := wA (min k 8 + 1) - wA (min k 8)
theorem zForm0 : ∀ k : Fin 10, zWl k.val ≤ zFl k.val ∧ zWl k.val ≤ 7 ∧ 0 < zWl k.val ∧ ∀ i : Fin 7, i.val < zWl k.val → zFch k.val i.val = wW (wA (min k.val 8) + i.val) ∧ zFch k.val i.val < 128 ∧ zFch k.val i.val ≠ 35 ∧ zFch k.val i.val ≠ 64 ∧ wA (min k.val 8) + i.val < wA (min k.val 8 + 1) := by decide +kernel
theorem zForm {k i : Nat} (hk : k < 10) (hi : i < zWl k) : zFch k i = wW (wA (min k 8) + i) ∧ zFch k i < 128 ∧ zFch k i ≠ 35 ∧ zFch k i ≠ 64 ∧ wA (min k 8) + i < wA (min k 8 + 1) :=
  (zForm0 ⟨k, hk⟩).2.2.2 ⟨i, by have : zWl k ≤ 7 := (zForm0 ⟨k, hk⟩).2.1; omega⟩ hi
theorem zWl_le {k : Nat} (hk : k < 10) : zWl k ≤ zFl k ∧ zWl k ≤ 7 ∧ 0 < zWl k := ⟨(zForm0 ⟨k, hk⟩).1, (zForm0 ⟨k, hk⟩).2.1, (zForm0 ⟨k, hk⟩).2.2.1⟩
/-- the letters compared -/
theorem zMt_lit {k p m f s : Nat} (hk : k < 10) : ∀ d i, i + d = zWl k → wM (zSg A) p (min k 8) i = true →
    (wM (zSg A) p (min k 8) (zWl k) = true ∧ zMt A k (zFl k - i) i (p + i) m f s = zMt A k (zFl k - zWl k) (zWl k) (p + zWl k) m f s) ∨ ∃ j, i ≤ j ∧ j < zWl k ∧ wM (zSg A) p (min k 8) j = true ∧ wM (zSg A) p (min k 8) (j + 1) = false ∧ zMt A k (zFl k - i) i (p + i) m f s = (false, p + j, m, f, s) := by
  intro d
  induction d with
  | zero =>
    intro i hi h
    have e : i = zWl k := by omega
    subst e; exact Or.inl ⟨h, rfl⟩
  | succ d ih =>
    intro i hi h
    obtain ⟨c1, c2, c3, c4, c5⟩ := zForm hk (show i < zWl k by omega)
    have hl := zWl_le hk
    have hw : wM (zSg A) p (min k 8) (i + 1) = decide (zSg A (p + i) = zFch k i) := by
      rw [wM, h, decide_eq_true c5, ← c1]
      simp only [Bool.true_and]
      exact decide_eq_decide.mpr ⟨fun q => q.symm, fun q => q.symm⟩
    rw [show zFl k - i = zFl k - (i + 1) + 1 from by omega, zMt, zTake_lit c2 c3 c4]
    by_cases hs : zSg A (p + i) = zFch k i
    · rw [if_pos hs]
      rw [decide_eq_true hs] at hw
      rcases ih (i + 1) (by omega) hw with ⟨h1, h2⟩ | ⟨j, h1, h2, h3, h4, h5⟩
      · exact Or.inl ⟨h1, h2⟩
      · exact Or.inr ⟨j, by omega, h2, h3, h4, h5⟩
    · rw [if_neg hs]
      rw [decide_eq_false hs] at hw
      exact Or.inr ⟨i, Nat.le_refl _, by omega, h, hw, rfl⟩
theorem wM_low {sg : Nat → Nat} {p w : Nat} : ∀ n m, m ≤ n → wM sg p w n = true → wM sg p w m = true := by
  intro n
  induction n with
  | zero => intro m hm h; rw [show m = 0 by omega]; rfl
  | succ n ih =>
    intro m hm h
    by_cases e : m = n + 1
    · rw [e]; exact h
    · rw [wM, Bool.and_eq_true] at h
      exact ih m (by omega) h.1
/-- a form against the text -/
theorem zMatch_lit {k p : Nat} (hk : k < 10) : (wM (zSg A) p (min k 8) (zWl k) = true ∧ zMatch A k p = zMt A k (zFl k - zWl k) (zWl k) (p + zWl k) 0 0 0) ∨ ∃ j, j < zWl k ∧ wM (zSg A) p (min k 8) j = true ∧ wM (zSg A) p (min k 8) (j + 1) = false ∧ zMatch A k p = (false, p + j, 0, 0, 0) := by
  rcases zMt_lit (A := A) (p := p) (m := 0) (f := 0) (s := 0) hk (zWl k) 0 (by omega) rfl with h | ⟨j, h1, h2, h3, h4, h5⟩
  · exact Or.inl h
  · exact Or.inr ⟨j, h2, h3, h4, h5⟩
/-- the numbers of a form with two -/
theorem zMt_two {k n1 d1 c1 d2 c2 i r : Nat} (h1 : (c1 = 35 ∧ d1 = 1) ∨ (c1 = 64 ∧ d1 = 2)) (h2 : (c2 = 35 ∧ d2 = 1) ∨ (c2 = 64 ∧ d2 = 2)) (e0 : zFch k i = c1) (e1 : zFch k (i + 1) = 32) (e2 : zFch k (i + 1 + 1) = c2) (hn : n1 = 3) :
    zMt A k n1 i r 0 0 0 = if r < (mDg (zSg A) d1 r 0).1 then (if zSg A (mDg (zSg A) d1 r 0).1 = 32 then (decide ((mDg (zSg A) d1 r 0).1 + 1 < (mDg (zSg A) d2 ((mDg (zSg A) d1 r 0).1 + 1) 0).1), (mDg (zSg A) d2 ((mDg (zSg A) d1 r 0).1 + 1) 0).1, 2, (mDg (zSg A) d1 r 0).2, (mDg (zSg A) d2 ((mDg (zSg A) d1 r 0).1 + 1) 0).2) else (false, (mDg (zSg A) d1 r 0).1, 1, (mDg (zSg A) d1 r 0).2, 0)) else (false, (mDg (zSg A) d1 r 0).1, 1, (mDg (zSg A) d1 r 0).2, 0) := by
  subst hn
  rw [show (3 : Nat) = 2 + 1 from rfl, zMt, e0, zTake_n h1]
  by_cases ha : r < (mDg (zSg A) d1 r 0).1
  · rw [if_pos ha, if_pos (decide_eq_true ha)]
    dsimp only
    rw [show (2 : Nat) = 1 + 1 from rfl, zMt, e1, zTake_lit (by decide) (by decide) (by decide)]
    by_cases hb : zSg A (mDg (zSg A) d1 r 0).1 = 32
    · rw [if_pos hb, if_pos hb, if_pos rfl]
      dsimp only
      rw [show (1 : Nat) = 0 + 1 from rfl, zMt, e2, zTake_n h2]
      dsimp only
      by_cases hc : (mDg (zSg A) d1 r 0).1 + (0 + 1) < (mDg (zSg A) d2 ((mDg (zSg A) d1 r 0).1 + (0 + 1)) 0).1
      · rw [if_pos (decide_eq_true hc), zMt, decide_eq_true hc]; rfl
      · rw [if_neg (by rw [decide_eq_false hc]; exact Bool.false_ne_true), decide_eq_false hc]; rfl
    · rw [if_neg hb, if_neg hb]; rfl
  · rw [if_neg ha, if_neg (by rw [decide_eq_false ha]; exact Bool.false_ne_true)]; rfl
theorem zMt_one {k d1 c1 i r : Nat} (h1 : (c1 = 35 ∧ d1 = 1) ∨ (c1 = 64 ∧ d1 = 2)) (e0 : zFch k i = c1) : zMt A k 1 i r 0 0 0 = (decide (r < (mDg (zSg A) d1 r 0).1), (mDg (zSg A) d1 r 0).1, 1, (mDg (zSg A) d1 r 0).2, 0) := by
  rw [show (1 : Nat) = 0 + 1 from rfl, zMt, e0, zTake_n h1]
  by_cases ha : r < (mDg (zSg A) d1 r 0).1
  · rw [if_pos (decide_eq_true ha), zMt, decide_eq_true ha]; rfl
  · rw [if_neg (by rw [decide_eq_false ha]; exact Bool.false_ne_true), decide_eq_false ha]; rfl
end SC
