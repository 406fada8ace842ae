/-! links made and cut, rumours begun and checked -/
section YES2
variable {A B : zS} {n t x y : Nat}
/-- both rows of a link, whatever their new values -/
theorem zGd.putLinks (G : zGd A 25) {L : Nat → Nat} {A' : zS} (h27 : ∀ e, A' 27 e = L e) (ho : ∀ a b, a ≠ 27 → ¬ (a = 26 ∧ b = 1) → A' a b = A a b) (hlt : ∀ e, e < 12 → L e < 4096) (hsym : ∀ e k, e < 12 → (L e).testBit k = true → e < A 26 0 ∧ k < A 26 0 ∧ k ≠ e ∧ (L k).testBit e = true) (hsum : A' 26 1 % 4294967296 * 2 = zsum 12 (fun e => zpop (L e))) : zGd A' 25 := by
  obtain ⟨a0, a1, a2, a3, a4, a5, a6⟩ := G
  refine ⟨by rw [ho _ _ (by decide) (by decide)]; exact a0, by rw [ho _ _ (by decide) (by decide)]; exact a1, fun e he => ⟨by rw [show A' (25 + 2) e = L e from h27 e]; exact hlt e he, by rw [ho _ _ (by decide) (by omega)]; exact (a2 e he).2.1, by rw [ho _ _ (by decide) (by omega)]; exact (a2 e he).2.2⟩, fun e k he hk => ?_, ?_, fun r hr => zRb.same (a5 r hr) (fun j => ho _ _ (by omega) (by omega)), fun r hr => ?_⟩
  · rw [show A' (25 + 2) e = L e from h27 e] at hk
    rw [ho (25 + 1) 0 (by decide) (by decide), show A' (25 + 2) k = L k from h27 k]
    exact hsym e k he hk
  · show A' 26 1 % 4294967296 * 2 = zIt (fun e s => s + zpop (A' 27 e)) 12 0
    rw [hsum, show (fun e s => s + zpop (A' 27 e)) = (fun e s => s + zpop (L e)) from funext (fun e => by rw [h27])]; rfl
  · rw [ho 25 4 (by decide) (by decide)] at hr
    rw [ho _ _ (by omega) (by omega), ho _ _ (by omega) (by omega), ho (25 + 1) 0 (by decide) (by decide)]; exact a6 r hr
theorem zsum_two {f g : Nat → Nat} {x y : Nat} (hx : x < 12) (hy : y < 12) (hne : x ≠ y) (h : ∀ j, j ≠ x → j ≠ y → g j = f j) : zsum 12 g + f x + f y = zsum 12 f + g x + g y := by
  have h1 := zsum_upd (n := 12) (i := x) (f := f) (g := fun j => if j = x then g x else f j) hx (fun j _ hj => if_neg hj)
  have h2 := zsum_upd (n := 12) (i := y) (f := fun j => if j = x then g x else f j) (g := g) hy (fun j _ hj => by
    skip
    by_cases e : j = x
    · subst e; rw [if_pos rfl]
    · rw [if_neg e]; exact h j e hj)
  rw [if_pos rfl] at h1
  rw [if_neg (fun q => hne q.symm)] at h2
  omega
theorem tie_join1 (T : zTie A 25 (B 13)) (G : zGd A 25) (hn : A 26 0 = n) (h : zrJoin A n x y = 0) : mJoins B n x y = (mLinks (mTurn B x y) n, mTurn B x y) ∧ zTie (zJoin A x y) 25 (mTurn B x y 13) ∧ zGd (zJoin A x y) 25 := by
  have hz : n ≤ 12 := hn ▸ G.1
  have h1 : x < n ∧ y < n := Classical.byContradiction (fun hc => by unfold zrJoin at h; rw [if_neg hc] at h; cases h)
  have h2 : ¬ x = y := fun hc => by unfold zrJoin at h; rw [if_pos h1, if_pos hc] at h; cases h
  have h3 : ¬ (A 27 x).testBit y = true := fun hc => by unfold zrJoin at h; rw [if_pos h1, if_neg h2, if_pos hc] at h; cases h
  have h3f : (A 27 x).testBit y = false := by simpa using h3
  have h4f : (A 27 y).testBit x = false := by
    cases hk : (A 27 y).testBit x with
    | false => rfl
    | true => exact absurd (G.2.2.2.1 y x (by omega) hk).2.2.2 h3
  have ex := (T.e (e := x) (by omega)).2.2
  have ey := (T.e (e := y) (by omega)).2.2
  have hlx : A 27 x < 4096 := (G.2.2.1 x (by omega)).1
  have hly : A 27 y < 4096 := (G.2.2.1 y (by omega)).1
  have eJ : zJoin A x y = zU (zU (zU A 27 x (A 27 x ^^^ 1 * 2 ^ y)) 27 y (A 27 y ^^^ 1 * 2 ^ x)) 26 1 (A 26 1 + 1) := by
    unfold zJoin
    rw [zU_j (fun q => h2 q.symm), zOrXor h3f, zOrXor h4f]
  have eT : mTurn B x y = zU (zU B 13 (29 + x) (A 27 x ^^^ 1 * 2 ^ y)) 13 (29 + y) (A 27 y ^^^ 1 * 2 ^ x) := by
    unfold mTurn
    rw [zU_j (by omega), ex, ey]
  refine ⟨?_, ?_, ?_⟩
  · unfold mJoins; rw [if_pos h1, if_neg h2, ex, if_neg h3]
  · rw [eJ, eT, zU13, zU13]
    exact ((T.put (by omega) (by omega) (by omega) (zL_lk (by omega))).put (by omega) (by omega) (by omega) (zL_lk (by omega))).links
  · have h27 : ∀ e, zJoin A x y 27 e = if e = y then A 27 y ||| 1 * 2 ^ x else if e = x then A 27 x ||| 1 * 2 ^ y else A 27 e := fun e => by
      rw [eJ, zU_o (by decide), ← zOrXor h3f, ← zOrXor h4f]
      by_cases e1 : e = y
      · subst e1; rw [zU_s, if_pos rfl]
      · rw [zU_j e1, if_neg e1]
        by_cases e2 : e = x
        · subst e2; rw [zU_s, if_pos rfl]
        · rw [zU_j e2, if_neg e2]
    refine G.putLinks h27 (fun a b ha hb => ?_) (fun e he => ?_) (fun e k he hk => ?_) ?_
    · rw [eJ]
      have : zU (zU (zU A 27 x (A 27 x ^^^ 1 * 2 ^ y)) 27 y (A 27 y ^^^ 1 * 2 ^ x)) 26 1 (A 26 1 + 1) a b = zU (zU A 27 x (A 27 x ^^^ 1 * 2 ^ y)) 27 y (A 27 y ^^^ 1 * 2 ^ x) a b := by
        unfold zU; rw [if_neg hb]
      rw [this, zU_o ha, zU_o ha]
    · skip
      split
      · exact zOr_lt hly (zBit_lt (by omega))
      · split
        · exact zOr_lt hlx (zBit_lt (by omega))
        · exact (G.2.2.1 e he).1
    · have hb : ∀ i j, (if i = y then A 27 y ||| 1 * 2 ^ x else if i = x then A 27 x ||| 1 * 2 ^ y else A 27 i).testBit j = ((A 27 i).testBit j || (decide (i = y ∧ j = x) || decide (i = x ∧ j = y))) := by
        intro i j
        by_cases e1 : i = y
        · subst e1
          rw [if_pos rfl, Nat.testBit_or, zBitT]
          by_cases e3 : x = j
          · subst e3; simp
          · rw [decide_eq_false e3, decide_eq_false (fun q => e3 q.2.symm), decide_eq_false (fun q => h2 q.1.symm)]; rfl
        · rw [if_neg e1]
          by_cases e2 : i = x
          · subst e2
            rw [if_pos rfl, Nat.testBit_or, zBitT]
            by_cases e3 : y = j
            · subst e3; simp
            · rw [decide_eq_false e3, decide_eq_false (fun q => e1 q.1), decide_eq_false (fun q => e3 q.2.symm)]; rfl
          · rw [if_neg e2, decide_eq_false (fun q => e1 q.1), decide_eq_false (fun q => e2 q.1)]; simp
      rw [hb] at hk ⊢
      simp only [Bool.or_eq_true, decide_eq_true_eq] at hk ⊢
      rcases hk with hk | hk | hk
      · have g := G.2.2.2.1 e k he hk
        exact ⟨g.1, g.2.1, g.2.2.1, Or.inl g.2.2.2⟩
      · exact ⟨by omega, by omega, by omega, Or.inr (Or.inr ⟨hk.2, hk.1⟩)⟩
      · exact ⟨by omega, by omega, by omega, Or.inr (Or.inl ⟨hk.2, hk.1⟩)⟩
    · have h0 : A 26 1 % 4294967296 * 2 = zsum 12 (fun e => zpop (A 27 e)) := G.2.2.2.2.1
      have hs := zsum_two (f := fun e => zpop (A 27 e)) (g := fun e => zpop (if e = y then A 27 y ||| 1 * 2 ^ x else if e = x then A 27 x ||| 1 * 2 ^ y else A 27 e)) (x := x) (y := y) (by omega) (by omega) h2 (fun j hj1 hj2 => by rw [if_neg hj2, if_neg hj1])
      skip
      rw [if_neg h2, if_pos rfl, if_pos rfl, zpop_add (by omega) h3f, zpop_add (by omega) h4f] at hs
      rw [eJ, zU_s]
      have h144 : zsum 12 (fun e => zpop (A 27 e)) ≤ 144 := by
        have : ∀ m, zsum m (fun e => zpop (A 27 e)) ≤ 12 * m := by
          intro m
          induction m with
          | zero => exact Nat.le_refl _
          | succ m ih => rw [zsum_s]; have := zpop_le (A 27 m); omega
        exact this 12
      omega
theorem tie_cut1 (T : zTie A 25 (B 13)) (G : zGd A 25) (hn : A 26 0 = n) (h : zrCut A n x y = 0) : mCuts B n x y = (mLinks (mTurn B x y) n, mTurn B x y) ∧ zTie (zCut A x y) 25 (mTurn B x y 13) ∧ zGd (zCut A x y) 25 := by
  have hz : n ≤ 12 := hn ▸ G.1
  have h1 : x < n ∧ y < n := Classical.byContradiction (fun hc => by unfold zrCut at h; rw [if_neg hc] at h; cases h)
  have h3 : (A 27 x).testBit y = true := Classical.byContradiction (fun hc => by unfold zrCut at h; rw [if_pos h1, if_neg hc] at h; cases h)
  have g0 := G.2.2.2.1 x y (by omega) h3
  have h2 : ¬ x = y := fun e => g0.2.2.1 e.symm
  have h4 : (A 27 y).testBit x = true := g0.2.2.2
  have ex := (T.e (e := x) (by omega)).2.2
  have ey := (T.e (e := y) (by omega)).2.2
  have hlx : A 27 x < 4096 := (G.2.2.1 x (by omega)).1
  have hly : A 27 y < 4096 := (G.2.2.1 y (by omega)).1
  have eJ : zCut A x y = zU (zU (zU A 27 x (A 27 x ^^^ 1 * 2 ^ y)) 27 y (A 27 y ^^^ 1 * 2 ^ x)) 26 1 (A 26 1 + 4294967295) := by
    unfold zCut
    rw [zU_j (fun q => h2 q.symm), zAndXor hlx h3, zAndXor hly h4]
  have eT : mTurn B x y = zU (zU B 13 (29 + x) (A 27 x ^^^ 1 * 2 ^ y)) 13 (29 + y) (A 27 y ^^^ 1 * 2 ^ x) := by
    unfold mTurn
    rw [zU_j (by omega), ex, ey]
  refine ⟨?_, ?_, ?_⟩
  · unfold mCuts; rw [if_pos h1, ex, if_pos h3]
  · rw [eJ, eT, zU13, zU13]
    exact ((T.put (by omega) (by omega) (by omega) (zL_lk (by omega))).put (by omega) (by omega) (by omega) (zL_lk (by omega))).links
  · have h27 : ∀ e, zCut A x y 27 e = if e = y then A 27 y &&& (1 * 2 ^ x ^^^ 4294967295) else if e = x then A 27 x &&& (1 * 2 ^ y ^^^ 4294967295) else A 27 e := fun e => by
      rw [eJ, zU_o (by decide), ← zAndXor hlx h3, ← zAndXor hly h4]
      by_cases e1 : e = y
      · subst e1; rw [zU_s, if_pos rfl]
      · rw [zU_j e1, if_neg e1]
        by_cases e2 : e = x
        · subst e2; rw [zU_s, if_pos rfl]
        · rw [zU_j e2, if_neg e2]
    refine G.putLinks h27 (fun a b ha hb => ?_) (fun e he => ?_) (fun e k he hk => ?_) ?_
    · rw [eJ]
      have : zU (zU (zU A 27 x (A 27 x ^^^ 1 * 2 ^ y)) 27 y (A 27 y ^^^ 1 * 2 ^ x)) 26 1 (A 26 1 + 4294967295) a b = zU (zU A 27 x (A 27 x ^^^ 1 * 2 ^ y)) 27 y (A 27 y ^^^ 1 * 2 ^ x) a b := by
        unfold zU; rw [if_neg hb]
      rw [this, zU_o ha, zU_o ha]
    · skip
      split
      · exact zAnd_lt hly
      · split
        · exact zAnd_lt hlx
        · exact (G.2.2.1 e he).1
    · have hkl : ∀ i j, i < 12 → (A 27 i).testBit j = true → j < 12 := fun i j hi hj => by
        have := (G.2.2.2.1 i j hi hj).2.1
        have hz2 : A (25 + 1) 0 = n := hn
        omega
      have hb : ∀ i j, j < 32 → (if i = y then A 27 y &&& (1 * 2 ^ x ^^^ 4294967295) else if i = x then A 27 x &&& (1 * 2 ^ y ^^^ 4294967295) else A 27 i).testBit j = ((A 27 i).testBit j && !(decide (i = y ∧ j = x) || decide (i = x ∧ j = y))) := by
        intro i j hj
        by_cases e1 : i = y
        · subst e1
          rw [if_pos rfl, zAndNot hj, zBitT]
          by_cases e3 : x = j
          · subst e3; simp
          · rw [decide_eq_false e3, decide_eq_false (fun q => e3 q.2.symm), decide_eq_false (fun q => h2 q.1.symm)]; rfl
        · rw [if_neg e1]
          by_cases e2 : i = x
          · subst e2
            rw [if_pos rfl, zAndNot hj, zBitT]
            by_cases e3 : y = j
            · subst e3; simp
            · rw [decide_eq_false e3, decide_eq_false (fun q => e1 q.1), decide_eq_false (fun q => e3 q.2.symm)]; rfl
          · rw [if_neg e2, decide_eq_false (fun q => e1 q.1), decide_eq_false (fun q => e2 q.1)]; simp
      have hk32 : k < 32 := by
        rcases Nat.lt_or_ge k 32 with h9 | h9
        · exact h9
        · exfalso
          have hlt : (if e = y then A 27 y &&& (1 * 2 ^ x ^^^ 4294967295) else if e = x then A 27 x &&& (1 * 2 ^ y ^^^ 4294967295) else A 27 e) < 4096 := by
            split
            · exact zAnd_lt hly
            · split
              · exact zAnd_lt hlx
              · exact (G.2.2.1 e he).1
          rw [zBit_hi hlt (by omega)] at hk; cases hk
      rw [hb e k hk32] at hk
      simp only [Bool.and_eq_true, Bool.not_eq_true', Bool.or_eq_false_iff, decide_eq_false_iff_not] at hk
      have g := G.2.2.2.1 e k he hk.1
      refine ⟨g.1, g.2.1, g.2.2.1, ?_⟩
      rw [hb k e (by omega), g.2.2.2, decide_eq_false (fun q => hk.2.2 ⟨q.2, q.1⟩), decide_eq_false (fun q => hk.2.1 ⟨q.2, q.1⟩)]; rfl
    · have h0 : A 26 1 % 4294967296 * 2 = zsum 12 (fun e => zpop (A 27 e)) := G.2.2.2.2.1
      have hs := zsum_two (f := fun e => zpop (A 27 e)) (g := fun e => zpop (if e = y then A 27 y &&& (1 * 2 ^ x ^^^ 4294967295) else if e = x then A 27 x &&& (1 * 2 ^ y ^^^ 4294967295) else A 27 e)) (x := x) (y := y) (by omega) (by omega) h2 (fun j hj1 hj2 => by rw [if_neg hj2, if_neg hj1])
      skip
      rw [if_neg h2, if_pos rfl, if_pos rfl] at hs
      have p1 := zpop_sub hlx h3
      have p2 := zpop_sub hly h4
      have p3 : zpop (A 27 x) ≤ zsum 12 (fun e => zpop (A 27 e)) := zsum_ge (f := fun e => zpop (A 27 e)) (show x < 12 by omega)
      rw [eJ, zU_s]
      omega
/-- a spreader's row of a rumour that isn't begun -/
theorem zGd.put34u (G : zGd A 25) {r j v : Nat} (hr : r < 4) (hrt : A 25 4 ≤ r) (hj : j = 3 ∨ j = 4) (hv : v < 4096) : zGd (zU A (33 + 2 * r) j v) 25 := by
  obtain ⟨a0, a1, a2, a3, a4, a5, a6⟩ := G
  have e : ∀ a' b', a' < 33 → zU A (33 + 2 * r) j v a' b' = A a' b' := fun a' b' h' => zU_o (by omega)
  refine ⟨by rw [e _ _ (by decide)]; exact a0, by rw [e _ _ (by decide)]; exact a1, fun q hq => ?_, fun q k hq hk => ?_, ?_, fun q hq => ?_, fun q hq => ?_⟩
  · rw [e _ _ (by decide), e _ _ (by decide), e _ _ (by decide)]; exact a2 q hq
  · rw [e _ _ (by decide)] at hk
    rw [e _ _ (by decide), e _ _ (by decide)]; exact a3 q k hq hk
  · rw [e _ _ (by decide), show (fun q s => s + zpop (zU A (33 + 2 * r) j v (25 + 2) q)) = (fun q s => s + zpop (A 27 q)) from funext (fun q => by rw [e _ _ (by decide)])]; exact a4
  · exact zRbU (a5 q hq) (fun h1 => by omega) (fun h1 => by omega) (fun h1 => hv) (fun h1 => hv)
  · rw [e 25 4 (by decide)] at hq
    have f : ∀ i, zU A (33 + 2 * r) j v (25 + 8 + 2 * q) i = A (25 + 8 + 2 * q) i := fun i => zU_o (by omega)
    rw [e (25 + 1) 0 (by decide), f 3, f 4]; exact a6 q hq
theorem zGd.putT (G : zGd A 25) (ht : A 25 4 = t) (h4 : t < 4) (hd : A (33 + 2 * t) 3 &&& A (33 + 2 * t) 4 = 0 ∧ ∀ k, (A (33 + 2 * t) 3).testBit k = true → k < A 26 0) : zGd (zU A 25 4 (t + 1)) 25 := by
  obtain ⟨a0, a1, a2, a3, a4, a5, a6⟩ := G
  refine ⟨a0, by rw [zU_s]; omega, a2, a3, a4, fun r hr => zRb.same (a5 r hr) (fun j => zU_o (by omega)), fun r hr => ?_⟩
  rw [zU_s] at hr
  rw [zU_o (by omega), zU_o (by omega)]
  by_cases e : r = t
  · subst e; exact hd
  · exact a6 r (by omega)
theorem tie_start1 (T : zTie A 25 (B 13)) (G : zGd A 25) (hn : A 26 0 = n) (ht : A 25 4 = t) (h : zrStart n t x y = 0) : (mStarts B n t x y).1 = t ∧ zTie (zBegin A t x y) 25 ((mStarts B n t x y).2 13) ∧ zGd (zBegin A t x y) 25 ∧ (mStarts B n t x y).2 12 0 = B 12 0 := by
  have hz : n ≤ 12 := hn ▸ G.1
  have h1 : x < n := Classical.byContradiction (fun hc => by unfold zrStart at h; rw [if_neg hc] at h; cases h)
  have h2 : y ≤ 9 := Classical.byContradiction (fun hc => by unfold zrStart at h; rw [if_pos h1, if_neg hc] at h; cases h)
  have h3 : t < 4 := Classical.byContradiction (fun hc => by unfold zrStart at h; rw [if_pos h1, if_pos h2, if_neg hc] at h; cases h)
  have hb : 1 * 2 ^ x < 4096 := zBit_lt (by omega)
  have e2 : B 13 2 = A 25 5 := T.2.2.1
  have eM : mStarts B n t x y = (t, zU (zU (zU (zU (zU (zU (zU B 13 (41 + 5 * t + 0) y) 13 (41 + 5 * t + 1) 0) 13 (41 + 5 * t + 2) x) 13 (41 + 5 * t + 3) (1 * 2 ^ x)) 13 (41 + 5 * t + 4) 0) 13 (61 + 12 * t + x) (A 25 5)) 13 1 (t + 1)) := by
    unfold mStarts; rw [if_pos h1, if_pos h2, if_neg (by omega), e2]
  rw [eM]
  refine ⟨rfl, ?_, ?_, ?_⟩
  · unfold zBegin zCome
    dsimp only
    rw [zU13, zU13, zU13, zU13, zU13, zU13, zU13, mUpd_comm (i := 41 + 5 * t + 1) (j := 41 + 5 * t + 2) (by omega), mUpd_comm (i := 41 + 5 * t + 0) (j := 41 + 5 * t + 2) (by omega)]
    have T1 := T.put (k := 41 + 5 * t + 2) (v := x) (by omega) (by omega) (by omega) (zL_ru h3 (by decide))
    have T2 := T1.put (k := 41 + 5 * t + 0) (v := y) (by omega) (by omega) (by omega) (zL_ru h3 (by decide))
    have T3 := T2.putA (r := t) (x := 1) (y := 0) h3 (fun _ => rfl)
    have T4 := T3.put (k := 41 + 5 * t + 3) (v := 1 * 2 ^ x) (by omega) (by omega) (by omega) (zL_ru h3 (by decide))
    have T5 := T4.put (k := 41 + 5 * t + 4) (v := 0) (by omega) (by omega) (by omega) (zL_ru h3 (by decide))
    have T6 := T5.put (k := 61 + 12 * t + x) (v := A 25 5) (by omega) (by omega) (by omega) (zL_hd h3 (by omega))
    refine T6.putT ?_ h3 ?_
    · rw [zU_o (by omega), zU_o (by omega), zU_o (by omega), zU_o (by omega), zU_o (by omega), zU_o (by omega)]; exact ht
    · unfold mUpd
      rw [if_neg (by omega), if_neg (by omega), if_neg (by omega), if_pos rfl, zU_o (by omega), zU_j (by decide), zU_j (by decide), zU_s]
  · unfold zBegin zCome
    have G1 := G.putF (r := t) (v := x) (Or.inl ⟨rfl, rfl⟩) h3
    have G2 := G1.putS (r := t) (j := 1) (v := y) h3 (Or.inl ⟨rfl, h2⟩)
    have G3 := G2.putS (r := t) (j := 2) (v := 1) h3 (Or.inr ⟨rfl, by decide⟩)
    have o1 : ∀ a b v1 v2 v3, a < 33 → zU (zU (zU A (33 + 2 * t) 0 v1) (33 + 2 * t) 1 v2) (33 + 2 * t) 2 v3 a b = A a b := fun a b _ _ _ h => by rw [zU_o (by omega), zU_o (by omega), zU_o (by omega)]
    have G4 := G3.put34u (r := t) (j := 3) (v := 1 * 2 ^ x) h3 (by rw [o1 _ _ _ _ _ (by decide)]; omega) (Or.inl rfl) hb
    have G5 := G4.put34u (r := t) (j := 4) (v := 0) h3 (by rw [zU_o (by omega), o1 _ _ _ _ _ (by decide)]; omega) (Or.inr rfl) (by decide)
    have G6 := G5.putF (r := t) (a := 33 + 2 * t + 1) (b := x) (v := A 25 5) (Or.inr rfl) h3
    refine G6.putT ?_ h3 ⟨?_, fun k hk => ?_⟩
    · rw [zU_o (by omega), zU_o (by omega), zU_o (by omega), o1 _ _ _ _ _ (by decide)]; exact ht
    · rw [zU_o (by omega), zU_j (by decide), zU_s, zU_o (by omega), zU_s, Nat.and_zero]
    · rw [zU_o (by omega), zU_j (by decide), zU_s, zBitT] at hk
      have := of_decide_eq_true hk
      rw [zU_o (by omega), zU_o (by omega), zU_o (by omega), o1 _ _ _ _ _ (by decide)]
      omega
  · dsimp only
    rw [zU_o (by decide), zU_o (by decide), zU_o (by decide), zU_o (by decide), zU_o (by decide), zU_o (by decide), zU_o (by decide)]
theorem tie_conv1 (T : zTie A 25 (B 13)) (G : zGd A 25) (hn : A 26 0 = n) (ht : A 25 4 = t) (h : zrConv A n t x y = 0) : (mChecks B n t x y).1 = (zConvert A x y).1 ∧ zTie (zConvert A x y).2 25 ((mChecks B n t x y).2 13) ∧ zGd (zConvert A x y).2 25 ∧ (mChecks B n t x y).2 12 0 = B 12 0 := by
  have hz : n ≤ 12 := hn ▸ G.1
  have ht4 : t ≤ 4 := ht ▸ G.2.1
  have h1 : x < t ∧ y < n := Classical.byContradiction (fun hc => by unfold zrConv at h; rw [if_neg hc] at h; cases h)
  have h3 : (A (33 + 2 * x) 3).testBit y = true := Classical.byContradiction (fun hc => by unfold zrConv at h; rw [if_pos h1, if_neg hc] at h; cases h)
  obtain ⟨r0, -, -, r3, r4⟩ := T.r (r := x) (by omega)
  have rd := (T.e (e := y) (by omega)).2.1
  have hb := G.r (r := x) (by omega)
  unfold mChecks zConvert
  rw [if_pos h1, r3, if_pos h3, rd, r0]
  by_cases hd : A 31 y ≤ A (33 + 2 * x) 1
  · rw [if_pos hd, if_pos hd]; exact ⟨rfl, T, G, rfl⟩
  · rw [if_neg hd, if_neg hd]
    have e4 : B 13 4 = A 25 7 := T.2.2.2.2.1
    have eC : mChk B x y = zU (zU (zU B 13 (41 + 5 * x + 3) (A (33 + 2 * x) 3 &&& (1 * 2 ^ y ^^^ 4294967295))) 13 (41 + 5 * x + 4) (A (33 + 2 * x) 4 ||| 1 * 2 ^ y)) 13 4 (A 25 7 + 1) := by
      unfold mChk
      dsimp only
      rw [zU_j (b := 41 + 5 * x + 4) (by omega), zU_j (b := 4) (by omega), zU_j (b := 4) (by omega), r3, r4, e4, zAndXor hb.2.2.1 h3]
    rw [eC]
    refine ⟨rfl, ?_, ?_, ?_⟩
    · dsimp only
      rw [zU13, zU13, zU13]
      exact ((T.put (by omega) (by omega) (by omega) (zL_ru (by omega) (by decide))).put (by omega) (by omega) (by omega) (zL_ru (by omega) (by decide))).put (by omega) (by omega) (by omega) rfl
    · dsimp only
      refine zGd.u25 ?_ (by decide)
      obtain ⟨a0, a1, a2, a3, a4, a5, a6⟩ := id G
      have e : ∀ a' b' v w, a' < 33 → zU (zU A (33 + 2 * x) 3 v) (33 + 2 * x) 4 w a' b' = A a' b' := fun a' b' v w h' => by rw [zU_o (by omega), zU_o (by omega)]
      refine ⟨by rw [e _ _ _ _ (by decide)]; exact a0, by rw [e _ _ _ _ (by decide)]; exact a1, fun q hq => ?_, fun q k hq hk => ?_, ?_, fun q hq => ?_, fun q hq => ?_⟩
      · rw [e _ _ _ _ (by decide), e _ _ _ _ (by decide), e _ _ _ _ (by decide)]; exact a2 q hq
      · rw [e _ _ _ _ (by decide)] at hk
        rw [e _ _ _ _ (by decide), e _ _ _ _ (by decide)]; exact a3 q k hq hk
      · rw [e _ _ _ _ (by decide)]
        refine a4.trans ?_
        show zsum 12 _ = zsum 12 _
        exact zsum_congr (fun i _ => by rw [e _ _ _ _ (by decide)])
      · exact zRbU (zRbU (a5 q hq) (fun h1 => by omega) (fun h1 => by omega) (fun _ => zAnd_lt hb.2.2.1) (fun h1 => by omega)) (fun h1 => by omega) (fun h1 => by omega) (fun h1 => by omega) (fun _ => zOr_lt hb.2.2.2 (zBit_lt (by omega)))
      · rw [e 25 4 _ _ (by decide)] at hq
        rw [e (25 + 1) 0 _ _ (by decide)]
        by_cases eq : q = x
        · subst eq
          have g := G.rt hq
          show zU (zU A (33 + 2 * q) 3 (A (33 + 2 * q) 3 &&& (1 * 2 ^ y ^^^ 4294967295))) (33 + 2 * q) 4 (A (33 + 2 * q) 4 ||| 1 * 2 ^ y) (33 + 2 * q) 3 &&& zU (zU A (33 + 2 * q) 3 (A (33 + 2 * q) 3 &&& (1 * 2 ^ y ^^^ 4294967295))) (33 + 2 * q) 4 (A (33 + 2 * q) 4 ||| 1 * 2 ^ y) (33 + 2 * q) 4 = 0 ∧ ∀ k, (zU (zU A (33 + 2 * q) 3 (A (33 + 2 * q) 3 &&& (1 * 2 ^ y ^^^ 4294967295))) (33 + 2 * q) 4 (A (33 + 2 * q) 4 ||| 1 * 2 ^ y) (33 + 2 * q) 3).testBit k = true → k < A 26 0
          rw [zU_j (b := 3) (by decide), zU_s, zU_s]
          have hk32 : ∀ k, (A (33 + 2 * q) 3 &&& (1 * 2 ^ y ^^^ 4294967295)).testBit k = true → (A (33 + 2 * q) 3).testBit k = true ∧ k ≠ y := fun k hk => by
            have h12 : k < 12 := by
              rcases Nat.lt_or_ge k 12 with h9 | h9
              · exact h9
              · rw [zBit_hi (zAnd_lt hb.2.2.1) h9] at hk; cases hk
            rw [zAndNot (by omega), zBitT] at hk
            simp only [Bool.and_eq_true, Bool.not_eq_true', decide_eq_false_iff_not] at hk
            exact ⟨hk.1, fun e => hk.2 e.symm⟩
          refine ⟨zAnd0.mpr (fun k hc => ?_), fun k hk => g.2 k (hk32 k hk).1⟩
          have h8 := hk32 k hc.1
          have h9 := hc.2
          rw [Nat.testBit_or, zBitT, decide_eq_false (fun e => h8.2 e.symm), Bool.or_false] at h9
          exact zAnd0.mp g.1 k ⟨h8.1, h9⟩
        · have f : ∀ i v w, zU (zU A (33 + 2 * x) 3 v) (33 + 2 * x) 4 w (25 + 8 + 2 * q) i = A (25 + 8 + 2 * q) i := fun i v w => by rw [zU_o (by omega), zU_o (by omega)]
          rw [f, f]; exact a6 q hq
    · dsimp only
      rw [zU_o (by decide), zU_o (by decide), zU_o (by decide)]
/-- a change made on both sides -/
theorem tie_yes (T : zTie A 25 (B 13)) (G : zGd A 25) (hn : A 26 0 = n) (ht : A 25 4 = t) {k : Nat} (h : zRef A n t k x y = 0) : nI (zPerf A n t k x y).1 = nI (mDoes B n t (min k 8) x y).1 ∧ zTie (zPerf A n t k x y).2 25 ((mDoes B n t (min k 8) x y).2 13) ∧ zGd (zPerf A n t k x y).2 25 ∧ (mDoes B n t (min k 8) x y).2 12 0 = B 12 0 := by
  match k with
  | 0 =>
    obtain ⟨e, p, q⟩ := tie_add1 T G hn h
    show nI n = nI (mAdds B n x y).1 ∧ zTie (zAddL A n x y) 25 ((mAdds B n x y).2 13) ∧ zGd (zAddL A n x y) 25 ∧ (mAdds B n x y).2 12 0 = B 12 0
    rw [e]
    exact ⟨rfl, p, q, by dsimp only; rw [zU_o (by decide), zU_o (by decide), zU_o (by decide)]⟩
  | 1 =>
    obtain ⟨e, p, q⟩ := tie_join1 T G hn h
    show nI (A 26 1 + 1) = nI (mJoins B n x y).1 ∧ zTie (zJoin A x y) 25 ((mJoins B n x y).2 13) ∧ zGd (zJoin A x y) 25 ∧ (mJoins B n x y).2 12 0 = B 12 0
    rw [e]
    have hl := tie_links (n := n) p q (by unfold zJoin; rw [zU_j (by decide), zU_o (by decide), zU_o (by decide)]; exact hn)
    have hv : zJoin A x y 26 1 = A 26 1 + 1 := by unfold zJoin; rw [zU_s]
    rw [hv] at hl
    refine ⟨?_, p, q, by dsimp only; unfold mTurn; rw [zU_o (by decide), zU_o (by decide)]⟩
    dsimp only
    rw [hl]; exact nI_mod (by omega)
  | 2 =>
    obtain ⟨e, p, q⟩ := tie_cut1 T G hn h
    show nI (A 26 1 + 4294967295) = nI (mCuts B n x y).1 ∧ zTie (zCut A x y) 25 ((mCuts B n x y).2 13) ∧ zGd (zCut A x y) 25 ∧ (mCuts B n x y).2 12 0 = B 12 0
    rw [e]
    have hl := tie_links (n := n) p q (by unfold zCut; rw [zU_j (by decide), zU_o (by decide), zU_o (by decide)]; exact hn)
    have hv : zCut A x y 26 1 = A 26 1 + 4294967295 := by unfold zCut; rw [zU_s]
    rw [hv] at hl
    refine ⟨?_, p, q, by dsimp only; unfold mTurn; rw [zU_o (by decide), zU_o (by decide)]⟩
    dsimp only
    rw [hl]; exact nI_mod (by omega)
  | 3 =>
    obtain ⟨e, p, q, o⟩ := tie_start1 T G hn ht h
    exact ⟨congrArg nI e.symm, p, q, o⟩
  | 4 =>
    obtain ⟨e, p, q, o⟩ := tie_conv1 T G hn ht h
    exact ⟨congrArg nI e.symm, p, q, o⟩
  | 5 =>
    obtain ⟨e, p, q⟩ := tie_sil1 T G ht h
    show nI (zpop (A (33 + 2 * x) 3)) = nI (mDenies B t x).1 ∧ zTie (zU A (33 + 2 * x) 2 0) 25 ((mDenies B t x).2 13) ∧ zGd (zU A (33 + 2 * x) 2 0) 25 ∧ (mDenies B t x).2 12 0 = B 12 0
    rw [e]
    exact ⟨rfl, p, q, by dsimp only; rw [zU_o (by decide)]⟩
  | 6 =>
    obtain ⟨e, p, q⟩ := tie_rev1 T G ht h
    show nI (A (33 + 2 * x) 1) = nI (mAnswers B t x y).1 ∧ zTie (zU (zU A (33 + 2 * x) 2 1) (33 + 2 * x) 1 y) 25 ((mAnswers B t x y).2 13) ∧ zGd (zU (zU A (33 + 2 * x) 2 1) (33 + 2 * x) 1 y) 25 ∧ (mAnswers B t x y).2 12 0 = B 12 0
    rw [e]
    exact ⟨rfl, p, q, by dsimp only; rw [zU_o (by decide), zU_o (by decide)]⟩
  | 7 =>
    obtain ⟨e, p, q⟩ := tie_move1 T G hn h
    show nI (A 30 x) = nI (mMoves B n x y).1 ∧ zTie (zMoveL A x y) 25 ((mMoves B n x y).2 13) ∧ zGd (zMoveL A x y) 25 ∧ (mMoves B n x y).2 12 0 = B 12 0
    rw [e]
    exact ⟨rfl, p, q, by dsimp only; rw [zU_o (by decide)]⟩
  | k + 8 =>
    have e : min (k + 8) 8 = 8 := by omega
    rw [e]
    have h2 : 1 ≤ x ∧ x ≤ 20 := Classical.byContradiction (fun hc => by
      have h : (if 1 ≤ x ∧ x ≤ 20 then 0 else 2) = 0 := h
      rw [if_neg hc] at h; cases h)
    obtain ⟨i1, i2, i3, i4, i5⟩ := tie_rounds T G hn ht x
    have eM : mDoes B n t 8 x y = mRds n t x B := by
      show mPasses B n t x = _
      unfold mPasses; rw [if_pos h2]
    rw [eM]
    exact ⟨congrArg nI i1, i2, i3, mRds_o (by decide)⟩
end YES2
