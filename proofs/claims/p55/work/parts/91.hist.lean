/-! the past on both sides -/
theorem zTie.cp {S : zS} {b p : Nat} {V : Nat → Nat} (hap : zAp b p) (T : zTie S p V) : zTie (zScCp S b p) b V := by
  obtain ⟨c0, c5, c6, c4⟩ := zScCp_is (S := S) hap
  exact T.scene (c0 0 (by decide)) c4 c5 c6
theorem zGd.cp {S : zS} {b p : Nat} (hap : zAp b p) (G : zGd S p) : zGd (zScCp S b p) b := by
  obtain ⟨c0, c5, c6, c4⟩ := zScCp_is (S := S) hap
  exact G.scene c0 c4 c5 (fun r hr => (c6 r hr).1)
theorem zTie.far {S Q : zS} {b : Nat} {V : Nat → Nat} (T : zTie S b V) (h : ∀ a k, b ≤ a → a < b + 16 → Q a k = S a k) : zTie Q b V :=
  T.scene (h _ _ (by omega) (by omega)) (fun k _ _ => h _ _ (by omega) (by omega)) (fun e _ => ⟨h _ _ (by omega) (by omega), h _ _ (by omega) (by omega), h _ _ (by omega) (by omega)⟩) (fun r hr => ⟨fun k _ => h _ _ (by omega) (by omega), fun k _ => h _ _ (by omega) (by omega)⟩)
theorem zGd.far {S Q : zS} {b : Nat} (G : zGd S b) (h : ∀ a k, b ≤ a → a < b + 16 → Q a k = S a k) : zGd Q b :=
  G.scene (fun k _ => h _ _ (by omega) (by omega)) (fun k _ _ => h _ _ (by omega) (by omega)) (fun e _ => ⟨h _ _ (by omega) (by omega), h _ _ (by omega) (by omega), h _ _ (by omega) (by omega)⟩) (fun r hr k _ => h _ _ (by omega) (by omega))
/-- the place of a past state in the ring -/
def zSlot (nx c j : Nat) : Nat := 73 + 16 * ((nx + 8 - c + j) % 8)
/-- the past states of both -/
def zHt (A B : zS) : Prop := A 1 1 = B 12 1 ∧ B 12 1 ≤ 8 ∧ A 1 2 < 8 ∧ ∀ j, j < B 12 1 → zTie A (zSlot (A 1 2) (B 12 1) j) (fun k => B 17 (j * 109 + k)) ∧ zGd A (zSlot (A 1 2) (B 12 1) j)
theorem zSlot_eq {nx c j nx' c' j' : Nat} (h : (nx + 8 - c + j) % 8 = (nx' + 8 - c' + j') % 8) : zSlot nx c j = zSlot nx' c' j' := by unfold zSlot; rw [h]
section HT
variable {A B : zS} {n t : Nat}
theorem zHt.hist (H : zHt A B) : zHist A := ⟨H.2.2.1, by rw [H.1]; exact H.2.1⟩
theorem tie_keep (T : zTie A 25 (B 13)) (G : zGd A 25) : zTie (zKeep A 25) 25 (B 13) ∧ zGd (zKeep A 25) 25 :=
  ⟨T.far (fun a k h1 h2 => zKeep_o (by omega) (by omega)), G.far (fun a k h1 h2 => zKeep_o (by omega) (by omega))⟩
/-- a state pushed onto the past -/
theorem tie_push (T : zTie A 25 (B 13)) (G : zGd A 25) (H : zHt A B) {A' B' : zS} (hA : ∀ a b, a < 25 ∨ 41 ≤ a → A' a b = zKeep A 25 a b) (h1 : B' 12 1 = B 12 1) (h14 : ∀ k, k < 109 → B' 14 k = B 13 k) (h17 : ∀ k, B' 17 k = B 17 k) : zHt A' (mPush (if B' 12 1 = 8 then zU (zSf B' 763) 12 1 7 else B')) := by
  obtain ⟨e1, e2, e3, e4⟩ := H
  obtain ⟨c, hc⟩ : ∃ c, B 12 1 = c := ⟨_, rfl⟩
  obtain ⟨nx, hnx⟩ : ∃ nx, A 1 2 = nx := ⟨_, rfl⟩
  rw [hc] at e1 e2 e4 h1
  rw [hnx] at e3 e4
  have a11 : A' 1 1 = min 8 (c + 1) := by rw [hA 1 1 (by omega)]; unfold zKeep; rw [zU_s, e1]
  have a12 : A' 1 2 = (nx + 1) % 8 := by rw [hA 1 2 (by omega)]; unfold zKeep; rw [zU_j (by decide), zU_s, hnx]
  have far : ∀ a k, 73 ≤ a → (a < 73 + 16 * nx ∨ 73 + 16 * nx + 16 ≤ a) → A' a k = A a k := fun a k h5 h6 => by
    rw [hA a k (by omega)]; unfold zKeep; rw [hnx, zU_o (by omega), zU_o (by omega)]; exact zScCp_o h6
  have new : ∀ a k, 73 + 16 * nx ≤ a → a < 73 + 16 * nx + 16 → A' a k = zScCp A (73 + 16 * nx) 25 a k := fun a k h5 h6 => by
    rw [hA a k (by omega)]; unfold zKeep; rw [hnx, zU_o (by omega), zU_o (by omega)]
  have hap : zAp (73 + 16 * nx) 25 := Or.inr (by omega)
  have Tn : zTie A' (73 + 16 * nx) (B 13) := (T.cp hap).far new
  have Gn : zGd A' (73 + 16 * nx) := (G.cp hap).far new
  have old : ∀ j, j < c → (nx + 8 - c + j) % 8 ≠ nx → zTie A' (zSlot nx c j) (fun k => B 17 (j * 109 + k)) ∧ zGd A' (zSlot nx c j) := fun j hj hne => by
    have f : ∀ a k, zSlot nx c j ≤ a → a < zSlot nx c j + 16 → A' a k = A a k := fun a k h5 h6 => by
      unfold zSlot at h5 h6
      exact far a k (by omega) (by omega)
    exact ⟨(e4 j hj).1.far f, (e4 j hj).2.far f⟩
  by_cases h8 : c = 8
  · rw [if_pos (h1.trans h8)]
    have b1 : mPush (zU (zSf B' 763) 12 1 7) 12 1 = 8 := by unfold mPush; rw [zU_s, zU_s]
    have b17 : ∀ b, mPush (zU (zSf B' 763) 12 1 7) 17 b = if 763 ≤ b ∧ b < 872 then B' 14 (b - 763) else if b < 763 then B 17 (b + 109) else B 17 b := fun b => by
      unfold mPush
      rw [zU_s, zU_o (by decide)]
      unfold zSeg
      by_cases h : 763 ≤ b ∧ b < 872
      · rw [if_pos ⟨rfl, by omega, by omega⟩, if_pos h, zU_o (by decide), zSf_o (by decide)]
      · rw [if_neg (by omega), if_neg h, zU_o (by decide)]
        unfold zSf
        by_cases h6 : b < 763
        · rw [if_pos ⟨rfl, h6⟩, if_pos h6, h17]
        · rw [if_neg (by omega), if_neg h6, h17]
    refine ⟨by rw [a11, b1]; omega, by rw [b1]; exact Nat.le_refl _, by rw [a12]; omega, fun j hj => ?_⟩
    rw [b1] at hj ⊢
    rw [a12]
    by_cases hj7 : j = 7
    · subst hj7
      have es : zSlot ((nx + 1) % 8) 8 7 = 73 + 16 * nx := by unfold zSlot; omega
      rw [es]
      refine ⟨Tn.row (fun k hk => ?_), Gn⟩
      show mPush _ 17 _ = _
      rw [b17, if_pos (by omega), show 7 * 109 + k - 763 = k from by omega]; exact h14 k hk
    · have es : zSlot ((nx + 1) % 8) 8 j = zSlot nx c (j + 1) := zSlot_eq (by omega)
      rw [es]
      have g := old (j + 1) (by omega) (by omega)
      refine ⟨g.1.row (fun k hk => ?_), g.2⟩
      show mPush _ 17 _ = B 17 _
      rw [b17, if_neg (by omega), if_pos (by omega)]; congr 1; omega
  · rw [if_neg (fun q => h8 (h1.symm.trans q))]
    have b1 : mPush B' 12 1 = c + 1 := by unfold mPush; rw [zU_s, h1]
    have b17 : ∀ b, mPush B' 17 b = if c * 109 ≤ b ∧ b < c * 109 + 109 then B' 14 (b - c * 109) else B 17 b := fun b => by
      unfold mPush
      rw [h1, zU_o (by decide)]
      unfold zSeg
      by_cases h : c * 109 ≤ b ∧ b < c * 109 + 109
      · rw [if_pos ⟨rfl, h⟩, if_pos h]
      · rw [if_neg (fun q => h q.2), if_neg h, h17]
    refine ⟨by rw [a11, b1]; omega, by rw [b1]; omega, by rw [a12]; omega, fun j hj => ?_⟩
    rw [b1] at hj ⊢
    rw [a12]
    by_cases hjc : j = c
    · subst hjc
      have es : zSlot ((nx + 1) % 8) (j + 1) j = 73 + 16 * nx := by unfold zSlot; omega
      rw [es]
      refine ⟨Tn.row (fun k hk => ?_), Gn⟩
      show mPush _ 17 _ = _
      rw [b17, if_pos (by omega), show j * 109 + k - j * 109 = k from by omega]; exact h14 k hk
    · have es : zSlot ((nx + 1) % 8) (c + 1) j = zSlot nx c j := zSlot_eq (by omega)
      rw [es]
      have g := old j (by omega) (by omega)
      refine ⟨g.1.row (fun k hk => ?_), g.2⟩
      show mPush _ 17 _ = B 17 _
      rw [b17, if_neg (by omega)]
/-- the last change undone -/
theorem tie_undo (H : zHt A B) {c : Nat} (hc : B 12 1 = c) (h0 : ¬ c = 0) : zAlv A (73 + 16 * ((A 1 2 + 7) % 8)) ∧ zTie (zBack A 25) 25 (mUn (zU (zU B 12 0 0) 12 1 (c - 1)) (c - 1) 109 13) ∧ zGd (zBack A 25) 25 ∧ zHt (zBack A 25) (mUn (zU (zU B 12 0 0) 12 1 (c - 1)) (c - 1) 109) := by
  obtain ⟨e1, e2, e3, e4⟩ := H
  obtain ⟨nx, hnx⟩ : ∃ nx, A 1 2 = nx := ⟨_, rfl⟩
  rw [hc] at e1 e2 e4
  rw [hnx] at e3 e4 ⊢
  have es : zSlot nx c (c - 1) = 73 + 16 * ((nx + 7) % 8) := by unfold zSlot; omega
  have g := e4 (c - 1) (by omega)
  rw [es] at g
  have hS0 : ∀ a k, a ≠ 1 → zU (zU A 1 2 ((nx + 7) % 8)) 1 1 (A 1 1 - 1) a k = A a k := fun a k h => by rw [zU_o h, zU_o h]
  have hap : zAp 25 (73 + 16 * ((nx + 7) % 8)) := Or.inl (by omega)
  have eB : zBack A 25 = zScCp (zU (zU A 1 2 ((nx + 7) % 8)) 1 1 (A 1 1 - 1)) 25 (73 + 16 * ((nx + 7) % 8)) := by unfold zBack; rw [hnx]
  have T0 := (g.1.far (Q := zU (zU A 1 2 ((nx + 7) % 8)) 1 1 (A 1 1 - 1)) (fun a k h5 h6 => hS0 a k (by omega))).cp hap
  have G0 := (g.2.far (Q := zU (zU A 1 2 ((nx + 7) % 8)) 1 1 (A 1 1 - 1)) (fun a k h5 h6 => hS0 a k (by omega))).cp hap
  rw [← eB] at T0 G0
  refine ⟨fun r hr => (g.2.2.2.2.2.2.1 r hr).2.1, T0.row (fun k hk => ?_), G0, ?_⟩
  · unfold mUn; rw [if_pos ⟨rfl, hk⟩, zU_o (by decide), zU_o (by decide)]
  · have far : ∀ a k, 41 ≤ a → zBack A 25 a k = A a k := fun a k h => by rw [eB, zScCp_o (by omega)]; exact hS0 a k (by omega)
    have b1 : mUn (zU (zU B 12 0 0) 12 1 (c - 1)) (c - 1) 109 12 1 = c - 1 := by unfold mUn; rw [if_neg (by omega), zU_s]
    have b17 : ∀ b, mUn (zU (zU B 12 0 0) 12 1 (c - 1)) (c - 1) 109 17 b = B 17 b := fun b => by unfold mUn; rw [if_neg (by omega), zU_o (by decide), zU_o (by decide)]
    have a11 : zBack A 25 1 1 = c - 1 := by rw [eB, zScCp_o (by omega), zU_s, e1]
    have a12 : zBack A 25 1 2 = (nx + 7) % 8 := by rw [eB, zScCp_o (by omega), zU_j (by decide), zU_s]
    refine ⟨by rw [a11, b1], by rw [b1]; omega, by rw [a12]; omega, fun j hj => ?_⟩
    rw [b1] at hj ⊢
    rw [a12]
    have es2 : zSlot ((nx + 7) % 8) (c - 1) j = zSlot nx c j := zSlot_eq (by omega)
    rw [es2]
    have g2 := e4 j (by omega)
    have f : ∀ a k, zSlot nx c j ≤ a → a < zSlot nx c j + 16 → zBack A 25 a k = A a k := fun a k h5 h6 => by
      unfold zSlot at h5
      exact far a k (by omega)
    refine ⟨(g2.1.far f).row (fun k hk => b17 _), g2.2.far f⟩
/-- what a call of the model leaves -/
theorem mBeg_13 {b : Nat} : mBeg B 13 b = B 13 b := by unfold mBeg; rw [zCp_o (by decide), zU_o (by decide)]
theorem mBeg_14 {k : Nat} (h : k < 109) : mBeg B 14 k = B 13 k := by unfold mBeg; rw [zCp_at h, zU_o (by decide)]
theorem mBeg_oo {a b : Nat} (h : a ≠ 14) (h2 : a ≠ 12 ∨ b ≠ 0) : mBeg B a b = B a b := by
  unfold mBeg; rw [zCp_o h]
  rcases h2 with h2 | h2
  · exact zU_o h2
  · exact zU_j h2
theorem mBeg_0 : mBeg B 12 0 = 0 := by unfold mBeg; rw [zCp_o (by decide), zU_s]
/-- a change asked of both: made -/
theorem tie_made (T : zTie A 25 (B 13)) (G : zGd A 25) (H : zHt A B) (hn : A 26 0 = n) (ht : A 25 4 = t) {k x y : Nat} (h : zRef A n t k x y = 0) : nI (zChg A n t k x y).1 = nI (mChg B n t (min k 8) x y).1 ∧ zTie (zChg A n t k x y).2 25 ((mChg B n t (min k 8) x y).2 13) ∧ zGd (zChg A n t k x y).2 25 ∧ zHt (zChg A n t k x y).2 (mChg B n t (min k 8) x y).2 ∧ (mChg B n t (min k 8) x y).2 12 0 = 0 := by
  have ht4 : t ≤ 4 := ht ▸ G.2.1
  obtain ⟨Tk, Gk⟩ := tie_keep (B := mBeg B) (T.row (fun k _ => mBeg_13)) G
  have hr : zRef (zKeep A 25) n t k x y = 0 := by rw [zRef_keep ht4]; exact h
  obtain ⟨y1, y2, y3, y4⟩ := tie_yes Tk Gk (by rw [zKeep_o (by decide) (by decide)]; exact hn) (by rw [zKeep_o (by decide) (by decide)]; exact ht) hr
  have h12 : (mDoes (mBeg B) n t (min k 8) x y).2 12 0 = 0 := y4.trans mBeg_0
  have ho : ∀ a b, a ≠ 13 → a ≠ 12 ∨ b ≠ 0 → (mDoes (mBeg B) n t (min k 8) x y).2 a b = mBeg B a b := fun a b ha hb => mDoes_o ha hb
  have P := tie_push T G H (A' := (zChg A n t k x y).2) (B' := (mDoes (mBeg B) n t (min k 8) x y).2) (fun a b hab => by unfold zChg; exact zPerf_o hab ht4 hr) (by rw [ho _ _ (by decide) (Or.inr (by decide)), mBeg_oo (by decide) (Or.inr (by decide))]) (fun k hk => by rw [ho _ _ (by decide) (Or.inl (by decide)), mBeg_14 hk]) (fun k => by rw [ho _ _ (by decide) (Or.inl (by decide)), mBeg_oo (by decide) (Or.inl (by decide))])
  have eE : mChg B n t (min k 8) x y = ((mDoes (mBeg B) n t (min k 8) x y).1, mPush (if (mDoes (mBeg B) n t (min k 8) x y).2 12 1 = 8 then zU (zSf (mDoes (mBeg B) n t (min k 8) x y).2 763) 12 1 7 else (mDoes (mBeg B) n t (min k 8) x y).2)) := by
    unfold mChg mEnd; rw [if_pos h12]
  rw [eE]
  have p13 : ∀ b, mPush (if (mDoes (mBeg B) n t (min k 8) x y).2 12 1 = 8 then zU (zSf (mDoes (mBeg B) n t (min k 8) x y).2 763) 12 1 7 else (mDoes (mBeg B) n t (min k 8) x y).2) 13 b = (mDoes (mBeg B) n t (min k 8) x y).2 13 b := fun b => by
    unfold mPush; rw [zU_o (by decide), zSeg_o (by decide)]; split
    · rw [zU_o (by decide), zSf_o (by decide)]
    · rfl
  have p12 : mPush (if (mDoes (mBeg B) n t (min k 8) x y).2 12 1 = 8 then zU (zSf (mDoes (mBeg B) n t (min k 8) x y).2 763) 12 1 7 else (mDoes (mBeg B) n t (min k 8) x y).2) 12 0 = (mDoes (mBeg B) n t (min k 8) x y).2 12 0 := by
    unfold mPush; rw [zU_j (by decide), zSeg_o (by decide)]; split
    · rw [zU_j (by decide), zSf_o (by decide)]
    · rfl
  exact ⟨y1, y2.row (fun k _ => p13 k), y3, P, p12.trans h12⟩
/-- .. refused -/
theorem tie_refused (T : zTie A 25 (B 13)) (G : zGd A 25) (H : zHt A B) (hn : A 26 0 = n) (ht : A 25 4 = t) {k x y : Nat} (h : ¬ zRef A n t k x y = 0) (h0 : ¬ zErr (min k 8) (zRef A n t k x y) = 0) : (mChg B n t (min k 8) x y).1 = 0 ∧ (mChg B n t (min k 8) x y).2 12 0 = zErr (min k 8) (zRef A n t k x y) ∧ zTie A 25 ((mChg B n t (min k 8) x y).2 13) ∧ zHt A (mChg B n t (min k 8) x y).2 := by
  have e := tie_no (B := mBeg B) (T.row (fun k _ => mBeg_13)) G hn ht h
  have eC : mChg B n t (min k 8) x y = (0, zCp (zU (mBeg B) 12 0 (zErr (min k 8) (zRef A n t k x y))) 14 13 109) := by
    unfold mChg mEnd; rw [e]; unfold mFl; rw [if_neg (by dsimp only; rw [zU_s]; exact h0)]
  rw [eC]
  dsimp only
  have b1 : zCp (zU (mBeg B) 12 0 (zErr (min k 8) (zRef A n t k x y))) 14 13 109 12 1 = B 12 1 := by rw [zCp_o (by decide), zU_j (by decide), mBeg_oo (by decide) (Or.inr (by decide))]
  refine ⟨rfl, by rw [zCp_o (by decide), zU_s], T.row (fun k hk => by rw [zCp_at hk, zU_o (by decide), mBeg_14 hk]), ?_⟩
  obtain ⟨e1, e2, e3, e4⟩ := H
  refine ⟨by rw [b1]; exact e1, by rw [b1]; exact e2, e3, fun j hj => ?_⟩
  rw [b1] at hj ⊢
  refine ⟨(e4 j hj).1.row (fun k _ => ?_), (e4 j hj).2⟩
  rw [zCp_o (by decide), zU_o (by decide), mBeg_oo (by decide) (Or.inl (by decide))]
end HT
