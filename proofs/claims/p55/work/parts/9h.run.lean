/-! a script run, tied -/
section RU
variable {A B : zS} {n t : Nat}
/-- a state pushed onto the past -/
theorem tie_pushG {b : Nat} {V : Nat → Nat} (hb : b + 16 ≤ 73) (T : zTie A b V) (G : zGd A b) (H : zHt A B) {A' B' : zS} (hA : ∀ a b', a < 25 ∨ 73 ≤ a → A' a b' = zKeep A b a b') (h1 : B' 12 1 = B 12 1) (h14 : ∀ k, k < 109 → B' 14 k = V k) (h17 : ∀ k, B' 17 k = B 17 k) : zHt A' (mPush (if B' 12 1 = 8 then zU (zSf B' 763) 12 1 7 else B')) := by
  obtain ⟨e1, e2, e3, e4⟩ := H
  obtain ⟨c, hc⟩ : ∃ c, B 12 1 = c := ⟨_, rfl⟩
  obtain ⟨nx, hnx⟩ : ∃ nx, A 1 2 = nx := ⟨_, rfl⟩
  rw [hc] at e1 e2 e4 h1
  rw [hnx] at e3 e4
  have a11 : A' 1 1 = min 8 (c + 1) := by rw [hA 1 1 (by omega)]; unfold zKeep; rw [zU_s, e1]
  have a12 : A' 1 2 = (nx + 1) % 8 := by rw [hA 1 2 (by omega)]; unfold zKeep; rw [zU_j (by decide), zU_s, hnx]
  have far : ∀ a k, 73 ≤ a → (a < 73 + 16 * nx ∨ 73 + 16 * nx + 16 ≤ a) → A' a k = A a k := fun a k h5 h6 => by
    rw [hA a k (by omega)]; unfold zKeep; rw [hnx, zU_o (by omega), zU_o (by omega)]; exact zScCp_o h6
  have new : ∀ a k, 73 + 16 * nx ≤ a → a < 73 + 16 * nx + 16 → A' a k = zScCp A (73 + 16 * nx) b a k := fun a k h5 h6 => by
    rw [hA a k (by omega)]; unfold zKeep; rw [hnx, zU_o (by omega), zU_o (by omega)]
  have hap : zAp (73 + 16 * nx) b := Or.inr (by omega)
  have Tn : zTie A' (73 + 16 * nx) V := (T.cp hap).far new
  have Gn : zGd A' (73 + 16 * nx) := (G.cp hap).far new
  have old : ∀ j, j < c → (nx + 8 - c + j) % 8 ≠ nx → zTie A' (zSlot nx c j) (fun k => B 17 (j * 109 + k)) ∧ zGd A' (zSlot nx c j) := fun j hj hne => by
    have f : ∀ a k, zSlot nx c j ≤ a → a < zSlot nx c j + 16 → A' a k = A a k := fun a k h5 h6 => by
      unfold zSlot at h5 h6
      exact far a k (by omega) (by omega)
    exact ⟨(e4 j hj).1.far f, (e4 j hj).2.far f⟩
  by_cases h8 : c = 8
  · rw [if_pos (h1.trans h8)]
    have b1 : mPush (zU (zSf B' 763) 12 1 7) 12 1 = 8 := by unfold mPush; rw [zU_s, zU_s]
    have b17 : ∀ b, mPush (zU (zSf B' 763) 12 1 7) 17 b = if 763 ≤ b ∧ b < 872 then B' 14 (b - 763) else if b < 763 then B 17 (b + 109) else B 17 b := fun b => by
      unfold mPush
      rw [zU_s, zU_o (by decide)]
      unfold zSeg
      by_cases h : 763 ≤ b ∧ b < 872
      · rw [if_pos ⟨rfl, by omega, by omega⟩, if_pos h, zU_o (by decide), zSf_o (by decide)]
      · rw [if_neg (by omega), if_neg h, zU_o (by decide)]
        unfold zSf
        by_cases h6 : b < 763
        · rw [if_pos ⟨rfl, h6⟩, if_pos h6, h17]
        · rw [if_neg (by omega), if_neg h6, h17]
    refine ⟨by rw [a11, b1]; omega, by rw [b1]; exact Nat.le_refl _, by rw [a12]; omega, fun j hj => ?_⟩
    rw [b1] at hj ⊢
    rw [a12]
    by_cases hj7 : j = 7
    · subst hj7
      have es : zSlot ((nx + 1) % 8) 8 7 = 73 + 16 * nx := by unfold zSlot; omega
      rw [es]
      refine ⟨Tn.row (fun k hk => ?_), Gn⟩
      show mPush _ 17 _ = _
      rw [b17, if_pos (by omega), show 7 * 109 + k - 763 = k from by omega]; exact h14 k hk
    · have es : zSlot ((nx + 1) % 8) 8 j = zSlot nx c (j + 1) := zSlot_eq (by omega)
      rw [es]
      have g := old (j + 1) (by omega) (by omega)
      refine ⟨g.1.row (fun k hk => ?_), g.2⟩
      show mPush _ 17 _ = B 17 _
      rw [b17, if_neg (by omega), if_pos (by omega)]; congr 1; omega
  · rw [if_neg (fun q => h8 (h1.symm.trans q))]
    have b1 : mPush B' 12 1 = c + 1 := by unfold mPush; rw [zU_s, h1]
    have b17 : ∀ b, mPush B' 17 b = if c * 109 ≤ b ∧ b < c * 109 + 109 then B' 14 (b - c * 109) else B 17 b := fun b => by
      unfold mPush
      rw [h1, zU_o (by decide)]
      unfold zSeg
      by_cases h : c * 109 ≤ b ∧ b < c * 109 + 109
      · rw [if_pos ⟨rfl, h⟩, if_pos h]
      · rw [if_neg (fun q => h q.2), if_neg h, h17]
    refine ⟨by rw [a11, b1]; omega, by rw [b1]; omega, by rw [a12]; omega, fun j hj => ?_⟩
    rw [b1] at hj ⊢
    rw [a12]
    by_cases hjc : j = c
    · subst hjc
      have es : zSlot ((nx + 1) % 8) (j + 1) j = 73 + 16 * nx := by unfold zSlot; omega
      rw [es]
      refine ⟨Tn.row (fun k hk => ?_), Gn⟩
      show mPush _ 17 _ = _
      rw [b17, if_pos (by omega), show j * 109 + k - j * 109 = k from by omega]; exact h14 k hk
    · have es : zSlot ((nx + 1) % 8) (c + 1) j = zSlot nx c j := zSlot_eq (by omega)
      rw [es]
      have g := old j (by omega) (by omega)
      refine ⟨g.1.row (fun k hk => ?_), g.2⟩
      show mPush _ 17 _ = B 17 _
      rw [b17, if_neg (by omega)]
theorem zErr_ne {k x y : Nat} (h : ¬ zRef A n t k x y = 0) : ¬ zErr (min k 8) (zRef A n t k x y) = 0 := by
  match k with
  | 0 =>
    have e : zRef A n t 0 x y = zrAdd n x y := rfl
    rw [e] at h ⊢
    show ¬ zrAdd n x y - 1 = 0
    unfold zrAdd at h ⊢
    (repeat' split at h) <;> (repeat' split) <;> omega
  | 1 => exact h
  | 2 =>
    show ¬ (if zRef A n t 2 x y = 4 then 2 else zRef A n t 2 x y) = 0
    split <;> omega
  | 3 => exact h
  | 4 =>
    show ¬ (if zRef A n t 4 x y = 3 then 2 else zRef A n t 4 x y) = 0
    split <;> omega
  | 5 =>
    show ¬ (if zRef A n t 5 x y = 3 then 2 else zRef A n t 5 x y) = 0
    split <;> omega
  | 6 => exact h
  | 7 => exact h
  | k + 8 =>
    rw [show min (k + 8) 8 = 8 by omega]
    show ¬ (1 : Nat) = 0
    decide
variable {P K : Nat → Nat} {M : Nat → Bool × Nat × Nat × Nat × Nat} {c : Nat}
/-- a command done by the model -/
theorem mCmE_do {X : zS} (H : zSq A P K M) (hS : mS X = zSg A) (h20 : ¬ X 12 20 = 0) {i : Nat} (hok : (M i).1 = true) : ∃ L, mCmE X n t (P i) = (mDoes (mRd X (M i).2.1 0 L) n t (min (K i) 8) (if K i = 8 then 1 else (M i).2.2.2.1) (M i).2.2.2.2).2 := by
  obtain ⟨⟨w, x, y, p, wr, nf⟩, hC⟩ : ∃ T, mCm (mS X) (P i) = T := ⟨_, rfl⟩
  have e := mCmE_of (n := n) (t := t) hC
  have h := tie_cmd (A := A) (p := P i)
  unfold zCmT at h
  rw [← (H.2 i).1, ← (H.2 i).2.1, ← hS, hC] at h
  rcases h with ⟨-, h2⟩ | ⟨h1, -⟩
  · have q1 : w = min (K i) 8 := congrArg (fun T : Nat × Nat × Nat × Nat × Nat × Nat => T.1) h2
    have q2 : x = (if K i = 8 then 1 else (M i).2.2.2.1) := congrArg (fun T : Nat × Nat × Nat × Nat × Nat × Nat => T.2.1) h2
    have q3 : y = (M i).2.2.2.2 := congrArg (fun T : Nat × Nat × Nat × Nat × Nat × Nat => T.2.2.1) h2
    have q4 : p = (M i).2.1 := congrArg (fun T : Nat × Nat × Nat × Nat × Nat × Nat => T.2.2.2.1) h2
    have q5 : wr = 0 := congrArg (fun T : Nat × Nat × Nat × Nat × Nat × Nat => T.2.2.2.2.1) h2
    rw [if_pos ⟨q5, h20⟩] at e
    exact ⟨mWL (mS X) (P i) nf, by rw [e, q1, q2, q3, q4]⟩
  · rw [hok] at h1; cases h1
/-- all commands from an index on, done by both -/
theorem tie_run (H : zSq A P K M) (hok : ∀ j, j < c → (M j).1 = true) (hsep : ∀ j, j + 1 < c → (M j).2.1 < A 5 1 ∧ zSg A (M j).2.1 = 59) (hend : (M (c - 1)).2.1 = A 5 1) : ∀ f i m (Q X : zS), i + (f + 1) = c → f ≤ m → zKp K M Q c → zTie Q 25 (X 13) → zGd Q 25 → mS X = zSg A → ¬ X 12 20 = 0 → X 12 17 = A 5 1 → X 12 0 = 0 →
    (∃ Qf R, zRunL (f + 1) i (Q 26 0) (Q 25 4) Q = (4294967295, zKeep Qf 41) ∧ mCsL m (i + 1) (mCmE X (X 13 0) (X 13 1) (P i)) = (c, R) ∧ zTie Qf 25 (R 13) ∧ zGd Qf 25 ∧ (∀ a b, a < 25 ∨ 41 ≤ a → Qf a b = Q a b) ∧ R 12 0 = 0 ∧ (∀ a b, a ≠ 13 → a ≠ 20 → a ≠ 12 ∨ (b ≠ 0 ∧ b ≠ 16 ∧ b ≠ 19) → R a b = X a b)) ∨
    (∃ Qf R j, i ≤ j ∧ j < c ∧ zRunL (f + 1) i (Q 26 0) (Q 25 4) Q = (j, zScCp Qf 25 41) ∧ mCsL m (i + 1) (mCmE X (X 13 0) (X 13 1) (P i)) = (j + 1, R) ∧ (∀ a b, a < 25 ∨ 41 ≤ a → Qf a b = Q a b) ∧ ¬ R 12 0 = 0 ∧ (∀ a b, a ≠ 13 → a ≠ 20 → a ≠ 12 ∨ (b ≠ 0 ∧ b ≠ 16 ∧ b ≠ 19) → R a b = X a b)) := by
  -- one command: done by both, or refused by both
  have one : ∀ i (Q X : zS), i < c → zKp K M Q c → zTie Q 25 (X 13) → zGd Q 25 → mS X = zSg A → ¬ X 12 20 = 0 → X 12 0 = 0 →
      (zRef Q (Q 26 0) (Q 25 4) (Q 7 i) (Q 8 i) (Q 9 i) = 0 ∧ zTie (zPerf Q (Q 26 0) (Q 25 4) (Q 7 i) (Q 8 i) (Q 9 i)).2 25 (mCmE X (X 13 0) (X 13 1) (P i) 13) ∧ zGd (zPerf Q (Q 26 0) (Q 25 4) (Q 7 i) (Q 8 i) (Q 9 i)).2 25 ∧ (zPerf Q (Q 26 0) (Q 25 4) (Q 7 i) (Q 8 i) (Q 9 i)).2 26 0 = zNx (Q 7 i) (Q 26 0) ∧ (zPerf Q (Q 26 0) (Q 25 4) (Q 7 i) (Q 8 i) (Q 9 i)).2 25 4 = zTx (Q 7 i) (Q 25 4) ∧ mCmE X (X 13 0) (X 13 1) (P i) 12 0 = 0 ∨ ¬ zRef Q (Q 26 0) (Q 25 4) (Q 7 i) (Q 8 i) (Q 9 i) = 0 ∧ ¬ mCmE X (X 13 0) (X 13 1) (P i) 12 0 = 0) ∧ mCmE X (X 13 0) (X 13 1) (P i) 12 16 = (M i).2.1 ∧ mCmE X (X 13 0) (X 13 1) (P i) 12 19 = 0 ∧ (∀ a b, a ≠ 13 → a ≠ 20 → a ≠ 12 ∨ (b ≠ 0 ∧ b ≠ 16 ∧ b ≠ 19) → mCmE X (X 13 0) (X 13 1) (P i) a b = X a b) := by
    intro i Q X hi KP T G hS h20 h0
    obtain ⟨k7, k8, k9⟩ := KP.2 i hi
    have eX0 : X 13 0 = Q 26 0 := T.1
    have eX1 : X 13 1 = Q 25 4 := T.2.1
    obtain ⟨L, eD⟩ := mCmE_do (n := Q 26 0) (t := Q 25 4) H hS h20 (hok i hi)
    rw [eX0, eX1, eD, k7, k8, k9]
    have ho : ∀ a b, a ≠ 13 → a ≠ 12 ∨ b ≠ 0 → (mDoes (mRd X (M i).2.1 0 L) (Q 26 0) (Q 25 4) (min (K i) 8) (if K i = 8 then 1 else (M i).2.2.2.1) (M i).2.2.2.2).2 a b = mRd X (M i).2.1 0 L a b := fun a b ha hb => mDoes_o ha hb
    have TX : zTie Q 25 (mRd X (M i).2.1 0 L 13) := T.row (fun k _ => mRd_at (by decide) (by decide))
    refine ⟨?_, by rw [ho _ _ (by decide) (Or.inr (by decide)), mRd_g16], by rw [ho _ _ (by decide) (Or.inr (by decide)), mRd_g19], fun a b h13 h20' h12 => ?_⟩
    · by_cases hr : zRef Q (Q 26 0) (Q 25 4) (K i) (if K i = 8 then 1 else (M i).2.2.2.1) (M i).2.2.2.2 = 0
      · left
        obtain ⟨-, T1, G1, z1⟩ := tie_yes TX G rfl rfl hr
        have hnow := zPerf_now G.now H.lt hr
        exact ⟨hr, T1, G1, hnow.1, hnow.2.2.1, by rw [z1, mRd_12 (by decide) (by decide)]; exact h0⟩
      · right
        refine ⟨hr, ?_⟩
        rw [tie_no TX G rfl rfl hr]
        unfold mFl
        dsimp only
        rw [zU_s]
        exact zErr_ne hr
    · rw [ho a b h13 (by omega)]
      rcases h12 with h | h
      · exact mRd_at h h20'
      · by_cases ha : a = 12
        · subst ha; exact mRd_12 h.2.1 h.2.2
        · exact mRd_at ha h20'
  have mSe : ∀ (X Y : zS), Y 12 17 = X 12 17 → (∀ q, Y 18 q = X 18 q) → mS Y = mS X := fun X Y h1 h2 => by funext q; unfold mS; rw [h1, h2]
  intro f
  induction f with
  | zero =>
    intro i m Q X hif hm KP T G hS h20 h17 h0
    have hi : i < c := by omega
    obtain ⟨o1, o2, o3, o4⟩ := one i Q X hi KP T G hS h20 h0
    rcases o1 with ⟨p1, p2, p3, p4, p5, p6⟩ | ⟨p1, p2⟩
    · left
      refine ⟨_, _, by rw [zRunL, if_pos p1, zRunL], ?_, p2, p3, fun a b hab => zPerf_o hab G.2.1 p1, p6, o4⟩
      have hn : ¬ (M i).2.1 < A 5 1 := by rw [show i = c - 1 by omega, hend]; exact Nat.lt_irrefl _
      rw [show c = i + 1 by omega]
      cases m with
      | zero => rfl
      | succ m => rw [mCsL, if_neg (fun q => hn (by rw [← o2, ← h17, ← o4 12 17 (by decide) (by decide) (Or.inr (by decide))]; exact q.2.2))]
    · right
      refine ⟨Q, _, i, Nat.le_refl _, hi, by rw [zRunL, if_neg p1], ?_, fun _ _ _ => rfl, p2, o4⟩
      cases m with
      | zero => rfl
      | succ m => rw [mCsL, if_neg (fun q => p2 q.2.1)]
  | succ f ih =>
    intro i m Q X hif hm KP T G hS h20 h17 h0
    have hi : i < c := by omega
    obtain ⟨m', rfl⟩ : ∃ m', m = m' + 1 := ⟨m - 1, by omega⟩
    obtain ⟨o1, o2, o3, o4⟩ := one i Q X hi KP T G hS h20 h0
    have e17 := o4 12 17 (by decide) (by decide) (Or.inr (by decide))
    rcases o1 with ⟨p1, p2, p3, p4, p5, p6⟩ | ⟨p1, p2⟩
    · obtain ⟨s1, s2⟩ := hsep i (by omega)
      have hS1 : mS (mCmE X (X 13 0) (X 13 1) (P i)) = zSg A := (mSe _ _ e17 (fun q => o4 18 q (by decide) (by decide) (Or.inl (by decide)))).trans hS
      have hgo : mCsL (m' + 1) (i + 1) (mCmE X (X 13 0) (X 13 1) (P i)) = mCsL m' (i + 1 + 1) (mCmE (mCmE X (X 13 0) (X 13 1) (P i)) (mCmE X (X 13 0) (X 13 1) (P i) 13 0) (mCmE X (X 13 0) (X 13 1) (P i) 13 1) (P (i + 1))) := by
        rw [mCsL, if_pos ⟨o3, p6, by rw [o2, e17, h17]; exact s1⟩]
        unfold mNx
        rw [o2, hS1, if_pos s2, (H.2 i).2.2]
      have hrun : zRunL (f + 1 + 1) i (Q 26 0) (Q 25 4) Q = zRunL (f + 1) (i + 1) ((zPerf Q (Q 26 0) (Q 25 4) (Q 7 i) (Q 8 i) (Q 9 i)).2 26 0) ((zPerf Q (Q 26 0) (Q 25 4) (Q 7 i) (Q 8 i) (Q 9 i)).2 25 4) (zPerf Q (Q 26 0) (Q 25 4) (Q 7 i) (Q 8 i) (Q 9 i)).2 := by
        rw [zRunL, if_pos p1, p4, p5]
      have hoff : ∀ a b, a < 25 ∨ 41 ≤ a → (zPerf Q (Q 26 0) (Q 25 4) (Q 7 i) (Q 8 i) (Q 9 i)).2 a b = Q a b := fun a b hab => zPerf_o hab G.2.1 p1
      have KP1 : zKp K M (zPerf Q (Q 26 0) (Q 25 4) (Q 7 i) (Q 8 i) (Q 9 i)).2 c := ⟨(hoff 5 5 (by decide)).trans KP.1, fun j hj => ⟨(hoff 7 j (by decide)).trans (KP.2 j hj).1, (hoff 8 j (by decide)).trans (KP.2 j hj).2.1, (hoff 9 j (by decide)).trans (KP.2 j hj).2.2⟩⟩
      have h20' : ¬ mCmE X (X 13 0) (X 13 1) (P i) 12 20 = 0 := by rw [o4 12 20 (by decide) (by decide) (Or.inr (by decide))]; exact h20
      rw [hgo, hrun]
      rcases ih (i + 1) m' _ _ (by omega) (by omega) KP1 p2 p3 hS1 h20' (e17.trans h17) p6 with ⟨Qf, R, q1, q2, q3, q4, q5, q6, q7⟩ | ⟨Qf, R, j, q1, q2, q3, q4, q5, q6, q7⟩
      · exact Or.inl ⟨Qf, R, q1, q2, q3, q4, fun a b hab => (q5 a b hab).trans (hoff a b hab), q6, fun a b h1 h2 h3 => (q7 a b h1 h2 h3).trans (o4 a b h1 h2 h3)⟩
      · exact Or.inr ⟨Qf, R, j, by omega, q2, q3, q4, fun a b hab => (q5 a b hab).trans (hoff a b hab), q6, fun a b h1 h2 h3 => (q7 a b h1 h2 h3).trans (o4 a b h1 h2 h3)⟩
    · right
      refine ⟨Q, _, i, Nat.le_refl _, hi, by rw [zRunL, if_neg p1], ?_, fun _ _ _ => rfl, p2, o4⟩
      rw [mCsL, if_neg (fun q => p2 q.2.1)]
end RU
