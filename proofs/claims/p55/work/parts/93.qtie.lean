/-! what is asked, tied -/
theorem zFind_congr {p q : Nat → Bool} : ∀ (k i : Nat), (∀ j, i ≤ j → j < i + k → p j = q j) → zFind p k i = zFind q k i := by
  intro k
  induction k with
  | zero => intro i _; rfl
  | succ k ih =>
    intro i h
    rw [zFind, zFind, h i (Nat.le_refl _) (by omega), ih (i + 1) (fun j h1 h2 => h j (by omega) (by omega))]
section QT
variable {A B : zS} {n t : Nat}
theorem tie_hsize (T : zTie A 25 (B 13)) (G : zGd A 25) (hn : A 26 0 = n) {x : Nat} : zpop (zMem A n x) = zcnt n (fun e => decide (B 13 (5 + e) = x)) := by
  have hz : n ≤ 12 := hn ▸ G.1
  unfold zMem
  rw [zpop_mask hz]
  exact zcnt_congr (fun i hi => by rw [(T.e (by omega)).1])
theorem tie_inh (T : zTie A 25 (B 13)) (G : zGd A 25) (hn : A 26 0 = n) {r h : Nat} (hr : r < 4) : zpop (A (33 + 2 * r) 3 &&& zMem A n h) = mInH (B 13) n r h := by
  have hz : n ≤ 12 := hn ▸ G.1
  have e : A (33 + 2 * r) 3 &&& zMem A n h = zmask n (fun e => decide (A 30 e = h) && (A (33 + 2 * r) 3).testBit e) := by
    refine zEq12 (zAnd_lt (G.r hr).2.2.1) (zmask_lt hz _) (fun k _ => ?_)
    unfold zMem
    rw [Nat.testBit_and, zmask_bit, zmask_bit]
    cases (A (33 + 2 * r) 3).testBit k <;> cases decide (k < n) <;> cases decide (A 30 k = h) <;> rfl
  rw [e, zpop_mask hz]
  unfold mInH
  obtain ⟨-, -, -, r3, -⟩ := T.r hr
  exact zcnt_congr (fun i hi => by rw [(T.e (by omega)).1, r3])
theorem tie_best (T : zTie A 25 (B 13)) (G : zGd A 25) (hn : A 26 0 = n) {r : Nat} (hr : r < 4) : (zMost A n (A (33 + 2 * r) 3)).1 = mBest (B 13) n r := by
  have hc : ∀ h, zpop (A (33 + 2 * r) 3 &&& zMem A n h) = mInH (B 13) n r h := fun h => tie_inh T G hn hr
  have hall : ∀ m, zIt (fun h q => if q.2 < zpop (A (33 + 2 * r) 3 &&& zMem A n h) then (h, zpop (A (33 + 2 * r) 3 &&& zMem A n h)) else q) (m + 1) (0, 0) = (zIt (fun k b => if mInH (B 13) n r b < mInH (B 13) n r (k + 1) then k + 1 else b) m 0, mInH (B 13) n r (zIt (fun k b => if mInH (B 13) n r b < mInH (B 13) n r (k + 1) then k + 1 else b) m 0)) := by
    intro m
    induction m with
    | zero =>
      show (if 0 < zpop (A (33 + 2 * r) 3 &&& zMem A n 0) then (0, zpop (A (33 + 2 * r) 3 &&& zMem A n 0)) else (0, 0)) = (0, mInH (B 13) n r 0)
      rw [hc]
      by_cases h : 0 < mInH (B 13) n r 0
      · rw [if_pos h]
      · rw [if_neg h, show mInH (B 13) n r 0 = 0 from by omega]
    | succ m ih =>
      rw [zIt, ih, zIt]
      obtain ⟨b, hb⟩ : ∃ b, zIt (fun k b => if mInH (B 13) n r b < mInH (B 13) n r (k + 1) then k + 1 else b) m 0 = b := ⟨_, rfl⟩
      rw [hb]
      dsimp only
      rw [hc]
      by_cases h : mInH (B 13) n r b < mInH (B 13) n r (m + 1)
      · rw [if_pos h, if_pos h]
      · rw [if_neg h, if_neg h]
  unfold zMost mBest
  rw [hall 3]
theorem tie_next (T : zTie A 25 (B 13)) (G : zGd A 25) (hn : A 26 0 = n) {r : Nat} (hr : r < A 25 4) : zCome2 A (33 + 2 * r) n = zpop (mBel B n r) := by
  have hz : n ≤ 12 := hn ▸ G.1
  have hr4 : r < 4 := Nat.lt_of_lt_of_le hr G.2.1
  have hd := (T.r hr4).2.1 hr
  unfold zCome2
  by_cases hal : A (33 + 2 * r) 2 = 1
  · rw [tie_bel T hr4 hr hal hz]
    unfold zBel
    rw [zpop_mask hz]
    exact zcnt_congr (fun i _ => by rw [decide_eq_true (show ¬ A (33 + 2 * r) 2 = 0 by omega), Bool.true_and])
  · have h0 : A (33 + 2 * r) 2 = 0 := by have := (G.r hr4).2.1; omega
    unfold mBel mHears
    rw [if_pos (by omega), zmk_mask, zpop_mask hz, zcnt_0 (fun i _ => by rw [decide_eq_false (fun q => q h0)]; rfl), zcnt_0 (fun i _ => by rw [Nat.zero_testBit]; rfl)]
theorem tie_SA (T : zTie A 25 (B 13)) (G : zGd A 25) {x y : Nat} (hx : x < A 25 4) (hy : y < A 25 4) : zSA A x y = mSA (B 13) x y := by
  have hx4 : x < 4 := Nat.lt_of_lt_of_le hx G.2.1
  have hy4 : y < 4 := Nat.lt_of_lt_of_le hy G.2.1
  obtain ⟨-, x1, -, x3, -⟩ := T.r hx4
  obtain ⟨-, y1, -, y3, -⟩ := T.r hy4
  have ex := x1 hx
  have ey := y1 hy
  unfold zSA mSA
  rw [x3, y3]
  by_cases h : zpop (A (33 + 2 * x) 3) = zpop (A (33 + 2 * y) 3)
  · rw [if_pos h, if_pos h]
    by_cases h2 : A (33 + 2 * x) 2 = A (33 + 2 * y) 2
    · rw [if_pos h2, if_pos (by omega)]
    · rw [if_neg h2, if_neg (by omega)]
      exact decide_eq_decide.mpr (by omega)
  · rw [if_neg h, if_neg h]
theorem mSA_self {V : Nat → Nat} {r : Nat} : mSA V r r = false := by
  unfold mSA; rw [if_pos rfl, if_pos rfl]; exact decide_eq_false (Nat.lt_irrefl _)
theorem mGA_self {V : Nat → Nat} {t r : Nat} : mGA V t r r = false := by
  unfold mGA; rw [if_pos rfl, if_pos rfl]; exact decide_eq_false (Nat.lt_irrefl _)
theorem tie_rkr (T : zTie A 25 (B 13)) (G : zGd A 25) (ht : A 25 4 = t) {r : Nat} (hr : r < t) : zRkR A t r = mRkR (B 13) t r := by
  unfold zRkR mRkR
  refine zcnt_congr (fun i hi => ?_)
  by_cases e : i = r
  · subst e; rw [mSA_self, decide_eq_false (fun q => q rfl)]; rfl
  · rw [decide_eq_true e, Bool.true_and]; exact tie_SA T G (by omega) (by omega)
theorem tie_gos (T : zTie A 25 (B 13)) (G : zGd A 25) (ht : A 25 4 = t) {e : Nat} : zGos A t e = mGos (B 13) t e := by
  have ht4 : t ≤ 4 := ht ▸ G.2.1
  unfold zGos mGos
  exact zcnt_congr (fun i hi => by rw [(T.r (r := i) (by omega)).2.2.2.1])
theorem tie_rkl (T : zTie A 25 (B 13)) (G : zGd A 25) (hn : A 26 0 = n) (ht : A 25 4 = t) {e : Nat} (he : e < n) : zRkL A n t e = mRkL (B 13) n t e := by
  have hz : n ≤ 12 := hn ▸ G.1
  unfold zRkL mRkL
  refine zcnt_congr (fun i hi => ?_)
  by_cases h : i = e
  · subst h; rw [mGA_self, decide_eq_false (fun q => q rfl)]; rfl
  · rw [decide_eq_true h, Bool.true_and]
    unfold zGA mGA
    rw [tie_gos T G ht, tie_gos T G ht, (T.e (e := i) (by omega)).2.1, (T.e (e := e) (by omega)).2.1]
    by_cases h1 : mGos (B 13) t i = mGos (B 13) t e
    · rw [if_pos h1, if_pos h1]
      by_cases h2 : A 31 i = A 31 e
      · rw [if_pos h2, if_pos h2.symm]
      · rw [if_neg h2, if_neg (fun q => h2 q.symm)]
    · rw [if_neg h1, if_neg h1]
theorem tie_byspread (T : zTie A 25 (B 13)) (G : zGd A 25) (ht : A 25 4 = t) {x : Nat} : zFind (fun r => decide (zRkR A t r = x)) t 0 = zFind (fun r => decide (mRkR (B 13) t r = x)) t 0 :=
  zFind_congr t 0 (fun j _ hj => by rw [tie_rkr T G ht (by omega)])
theorem tie_bygossip (T : zTie A 25 (B 13)) (G : zGd A 25) (hn : A 26 0 = n) (ht : A 25 4 = t) {x : Nat} : zFind (fun r => decide (zRkL A n t r = x)) n 0 = zFind (fun r => decide (mRkL (B 13) n t r = x)) n 0 :=
  zFind_congr n 0 (fun j _ hj => by rw [tie_rkl T G hn ht (by omega)])
end QT
