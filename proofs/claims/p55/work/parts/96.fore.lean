/-! foretold rounds, tied -/
def zAg (q : zS) (o : Nat) (A : zS) (o' : Nat) : Prop := (∀ j, 1 ≤ j → j < 5 → q o j = A o' j) ∧ (∀ e, q 27 e = A 27 e) ∧ ∀ e, q 31 e = A 31 e
section FT
variable {A B q : zS} {n t : Nat}
theorem zSpread_ag {o o' : Nat} (h : zAg q o A o') {j : Nat} (h1 : 1 ≤ j) (h5 : j < 5) : (zSpread q o n).2 o j = (zSpread A o' n).2 o' j := by
  obtain ⟨ha, hb, hc⟩ := h
  have hh : zHears q o = zHears A o' := by
    funext e; unfold zHears; rw [ha 3 (by decide) (by decide), ha 4 (by decide) (by decide), hb]
  have hv : zBelv q o = zBelv A o' := by
    funext e; unfold zBelv; rw [ha 1 (by decide) (by decide), ha 3 (by decide) (by decide), hb, hc]
  have eB : zBel q o n = zBel A o' n := by unfold zBel; rw [hh, hv]
  have eD : zDbt q o n = zDbt A o' n := by unfold zDbt; rw [hh, hv]
  have h2 := ha 2 (by decide) (by decide)
  by_cases h0 : A o' 2 = 0
  · unfold zSpread
    rw [if_pos (h2.trans h0), if_pos h0]; exact ha j h1 h5
  · obtain ⟨-, -, p1, p2, p3, p4, -⟩ := zSpread_at (A := q) (o := o) (n := n) (fun e => h0 (h2 ▸ e))
    obtain ⟨-, -, r1, r2, r3, r4, -⟩ := zSpread_at (A := A) (o := o') (n := n) h0
    rcases (show j = 1 ∨ j = 2 ∨ j = 3 ∨ j = 4 by omega) with rfl | rfl | rfl | rfl
    · rw [p1, r1, eB, ha 1 (by decide) (by decide)]
    · rw [p2, r2, h2]
    · rw [p3, r3, eB, ha 3 (by decide) (by decide)]
    · rw [p4, r4, eD, ha 4 (by decide) (by decide)]
theorem zPass1_sp {r a b : Nat} {p : Nat × zS} (h : a ≠ 25) : (zPass1 n r p).2 a b = (zSpread p.2 (33 + 2 * r) n).2 a b := by
  unfold zPass1; exact zU_o h
theorem zPass1_c {r : Nat} {p p' : Nat × zS} (h : p.2 = p'.2) : (zPass1 n r p).2 = (zPass1 n r p').2 := by
  unfold zPass1; rw [h]
theorem zRound_at {x : Nat} (hx : x < t) {p : Nat × zS} : zAg (zRound n t p).2 (33 + 2 * x) (zSpread p.2 (33 + 2 * x) n).2 (33 + 2 * x) := by
  have hall : ∀ m, m ≤ t → (∀ j, 1 ≤ j → j < 5 → (zIt (fun r q => zPass1 n r q) m p).2 (33 + 2 * x) j = if x < m then (zSpread p.2 (33 + 2 * x) n).2 (33 + 2 * x) j else p.2 (33 + 2 * x) j) ∧ (∀ e, (zIt (fun r q => zPass1 n r q) m p).2 27 e = p.2 27 e) ∧ ∀ e, (zIt (fun r q => zPass1 n r q) m p).2 31 e = p.2 31 e := by
    intro m
    induction m with
    | zero => intro _; exact ⟨fun j _ _ => by rw [if_neg (by omega)]; rfl, fun _ => rfl, fun _ => rfl⟩
    | succ m ih =>
      intro hm
      obtain ⟨i1, i2, i3⟩ := ih (by omega)
      rw [zIt]
      obtain ⟨Q, hQ⟩ : ∃ Q, zIt (fun r q => zPass1 n r q) m p = Q := ⟨_, rfl⟩
      rw [hQ] at i1 i2 i3 ⊢
      refine ⟨fun j h1 h5 => ?_, fun e => ?_, fun e => ?_⟩
      · rw [zPass1_sp (by omega)]
        by_cases hmx : m = x
        · subst hmx
          rw [if_pos (by omega)]
          refine zSpread_ag ⟨fun k k1 k5 => ?_, i2, i3⟩ h1 h5
          rw [i1 k k1 k5, if_neg (by omega)]
        · rw [zSpread_off (by omega) (by omega), i1 j h1 h5]
          by_cases hxm : x < m
          · rw [if_pos hxm, if_pos (by omega)]
          · rw [if_neg hxm, if_neg (by omega)]
      · rw [zPass1_sp (by decide), zSpread_off (by omega) (by omega)]; exact i2 e
      · rw [zPass1_sp (by decide), zSpread_off (by omega) (by omega)]; exact i3 e
  obtain ⟨h1, h2, h3⟩ := hall t (Nat.le_refl _)
  unfold zRound
  refine ⟨fun j k1 k5 => ?_, fun e => ?_, fun e => ?_⟩
  · dsimp only
    rw [zU_o (by omega), h1 j k1 k5, if_pos hx]
  · dsimp only
    rw [zU_o (by decide), h2, zSpread_off (by omega) (by omega)]
  · dsimp only
    rw [zU_o (by decide), h3, zSpread_off (by omega) (by omega)]
theorem zAg.step {x : Nat} (hx : x < t) {p : Nat × zS} (h : zAg q 3 p.2 (33 + 2 * x)) : zAg (zSpread q 3 n).2 3 (zRound n t p).2 (33 + 2 * x) := by
  have r := zRound_at (n := n) hx (p := p)
  refine ⟨fun j h1 h5 => ?_, fun e => ?_, fun e => ?_⟩
  · rw [r.1 j h1 h5]; exact zSpread_ag h h1 h5
  · rw [r.2.1, zSpread_off (by decide) (by decide), zSpread_off (by omega) (by omega)]; exact h.2.1 e
  · rw [r.2.2, zSpread_off (by decide) (by decide), zSpread_off (by omega) (by omega)]; exact h.2.2 e
theorem zAg.start {x : Nat} : zAg (zRcp A 3 (33 + 2 * x)) 3 A (33 + 2 * x) :=
  ⟨fun j _ h5 => zRcp_is (by omega) h5, fun e => zRcp_o (by decide) (by decide), fun e => zRcp_o (by decide) (by decide)⟩
theorem zPassR_s {m : Nat} : (zPassR n t (m + 1) A).2 = (zRound n t (zPassR n t m A)).2 := rfl
theorem zAg.fwd {x : Nat} (hx : x < t) : ∀ m, zAg (zFwd n m (zRcp A 3 (33 + 2 * x))) 3 (zPassR n t m A).2 (33 + 2 * x) := by
  intro m
  induction m with
  | zero => exact zAg.start
  | succ m ih => exact ih.step hx
/-- how many spread it after so many rounds -/
theorem tie_after (T : zTie A 25 (B 13)) (G : zGd A 25) (hn : A 26 0 = n) (ht : A 25 4 = t) {x y : Nat} (hx : x < t) : zpop (zFwd n y (zRcp A 3 (33 + 2 * x)) 3 3) = zpop ((mRds n t y (mKp B)).2 13 (41 + 5 * x + 3)) := by
  have ht4 : t ≤ 4 := ht ▸ G.2.1
  obtain ⟨-, T2, -, -, -⟩ := tie_rounds (B := mKp B) (T.row (fun k _ => mKp_row k)) G hn ht y
  rw [(T2.r (r := x) (by omega)).2.2.2.1, (zAg.fwd hx y).1 3 (by decide) (by decide)]
theorem zFind_hitL {p : Nat → Bool} {m : Nat} (h : p m = true) : ∀ k i, i ≤ m → m < i + k → (∀ j, i ≤ j → j < m → p j = false) → zFind p k i = m := by
  intro k
  induction k with
  | zero => intro i h1 h2; omega
  | succ k ih =>
    intro i h1 h2 hb
    rw [zFind]
    by_cases e : i = m
    · subst e; rw [if_pos h]
    · rw [if_neg (by rw [hb i (Nat.le_refl _) (by omega)]; decide)]
      exact ih (i + 1) (by omega) (by omega) (fun j h3 h4 => hb j (by omega) h4)
theorem zFind_noneL {p : Nat → Bool} : ∀ k i, (∀ j, i ≤ j → j < i + k → p j = false) → zFind p k i = 4294967295 := by
  intro k
  induction k with
  | zero => intro i _; rfl
  | succ k ih =>
    intro i hb
    rw [zFind, if_neg (by rw [hb i (Nat.le_refl _) (by omega)]; decide)]
    exact ih (i + 1) (fun j h3 h4 => hb j (by omega) (by omega))
/-- whether a listener has heard it, rounds ahead -/
def zAwr (A : zS) (n t x y m : Nat) : Bool := ((zPassR n t m A).2 (33 + 2 * x) 3 ||| (zPassR n t m A).2 (33 + 2 * x) 4).testBit y
theorem zFore_is {x y : Nat} (hx : x < t) : ∀ k i q, zAg q 3 (zPassR n t i A).2 (33 + 2 * x) → (zFore n y k (i + 1) q).1 = zFind (zAwr A n t x y) k (i + 1) := by
  intro k
  induction k with
  | zero => intro i q _; rfl
  | succ k ih =>
    intro i q h
    have h1 : zAg (zSpread q 3 n).2 3 (zPassR n t (i + 1) A).2 (33 + 2 * x) := h.step hx
    have e : ((zSpread q 3 n).2 3 3 ||| (zSpread q 3 n).2 3 4).testBit y = zAwr A n t x y (i + 1) := by
      unfold zAwr; rw [h1.1 3 (by decide) (by decide), h1.1 4 (by decide) (by decide)]
    rw [zFore, zFind, e]
    by_cases hb : zAwr A n t x y (i + 1) = true
    · rw [if_pos hb, if_pos hb]
    · rw [if_neg hb, if_neg hb]; exact ih (i + 1) _ h1
theorem mHL_o {r e a b : Nat} (h : a ≠ 13) : ∀ k i Q, (mHL n t r e k i Q).2 a b = Q a b := by
  intro k
  induction k with
  | zero => intro i Q; rfl
  | succ k ih =>
    intro i Q
    rw [mHL]
    split
    · rfl
    · rw [ih]; exact mRds_o h
theorem mHL_is (ht4 : t ≤ 4) {x y : Nat} (hx : x < t) : ∀ k i Q, zTie (zPassR n t i A).2 25 (Q 13) → zGd (zPassR n t i A).2 25 → (zPassR n t i A).2 26 0 = n → (zPassR n t i A).2 25 4 = t →
    zTie (zPassR n t (mHL n t x y k i Q).1 A).2 25 ((mHL n t x y k i Q).2 13) ∧ i ≤ (mHL n t x y k i Q).1 ∧ (mHL n t x y k i Q).1 ≤ i + k ∧ (∀ j, i ≤ j → j < (mHL n t x y k i Q).1 → zAwr A n t x y j = false) ∧ ((mHL n t x y k i Q).1 < i + k → zAwr A n t x y (mHL n t x y k i Q).1 = true) := by
  intro k
  induction k with
  | zero => intro i Q T G _ _; exact ⟨T, Nat.le_refl _, Nat.le_refl _, fun j h1 h2 => by have h2 : j < i := h2; omega, fun h => by have h : i < i + 0 := h; omega⟩
  | succ k ih =>
    intro i Q T G hn ht
    have e : (Q 13 (41 + 5 * x + 3) ||| Q 13 (41 + 5 * x + 4)).testBit y = zAwr A n t x y i := by
      unfold zAwr; rw [(T.r (r := x) (by omega)).2.2.2.1, (T.r (r := x) (by omega)).2.2.2.2]
    rw [mHL, e]
    by_cases hb : zAwr A n t x y i = true
    · rw [if_pos hb]
      exact ⟨T, Nat.le_refl _, Nat.le_add_right _ _, fun j h1 h2 => by have h2 : j < i := h2; omega, fun _ => hb⟩
    · rw [if_neg hb]
      obtain ⟨-, T1, G1, n1, t1⟩ := tie_rounds T G hn ht 1
      have es : (zPassR n t 1 (zPassR n t i A).2).2 = (zPassR n t (i + 1) A).2 := by
        show (zRound n t (0, (zPassR n t i A).2)).2 = (zRound n t (zPassR n t i A)).2
        have h0 : ∀ m (p p' : Nat × zS), p.2 = p'.2 → (zIt (fun r q => zPass1 n r q) m p).2 = (zIt (fun r q => zPass1 n r q) m p').2 := by
          intro m
          induction m with
          | zero => intro p p' h; exact h
          | succ m ihm =>
            intro p p' h
            rw [zIt, zIt]
            exact zPass1_c (ihm p p' h)
        unfold zRound
        rw [h0 t (0, (zPassR n t i A).2) (zPassR n t i A) rfl]
      rw [es] at T1 G1 n1 t1
      obtain ⟨a1, a2, a3, a4, a5⟩ := ih (i + 1) (mRds n t 1 Q).2 T1 G1 n1 t1
      refine ⟨a1, by omega, by omega, fun j h1 h2 => ?_, fun h => a5 (by omega)⟩
      by_cases hj : j = i
      · subst hj; simpa using hb
      · exact a4 j (by omega) h2
/-- the rounds until it is heard -/
theorem tie_ruh (T : zTie A 25 (B 13)) (G : zGd A 25) (hn : A 26 0 = n) (ht : A 25 4 = t) {x y : Nat} (hx : x < t) (ha : (A (33 + 2 * x) 3 ||| A (33 + 2 * x) 4).testBit y = false) :
    ((zFore n y 40 1 (zRcp A 3 (33 + 2 * x))).1 = 4294967295 ∧ mRuh B n t x y = (0, zU (zCp (mHL n t x y 40 0 (mKp B)).2 16 13 109) 12 0 3)) ∨ ((zFore n y 40 1 (zRcp A 3 (33 + 2 * x))).1 ≤ 40 ∧ mRuh B n t x y = ((zFore n y 40 1 (zRcp A 3 (33 + 2 * x))).1, zCp (mHL n t x y 40 0 (mKp B)).2 16 13 109)) := by
  have ht4 : t ≤ 4 := ht ▸ G.2.1
  have e0 : (zFore n y 40 1 (zRcp A 3 (33 + 2 * x))).1 = zFind (zAwr A n t x y) 40 1 := zFore_is (A := A) hx 40 0 _ zAg.start
  rw [e0]
  have hA0 : zAwr A n t x y 0 = false := ha
  obtain ⟨T1, l1, l2, l3, l4⟩ := mHL_is (A := A) ht4 (y := y) hx 40 0 (mKp B) (T.row (fun k _ => mKp_row k)) G hn ht
  obtain ⟨m, hm⟩ : ∃ m, (mHL n t x y 40 0 (mKp B)).1 = m := ⟨_, rfl⟩
  rw [hm] at T1 l1 l2 l3 l4
  have e : ((mHL n t x y 40 0 (mKp B)).2 13 (41 + 5 * x + 3) ||| (mHL n t x y 40 0 (mKp B)).2 13 (41 + 5 * x + 4)).testBit y = zAwr A n t x y m := by
    unfold zAwr; rw [(T1.r (r := x) (by omega)).2.2.2.1, (T1.r (r := x) (by omega)).2.2.2.2]
  unfold mRuh
  rw [e, hm]
  by_cases hb : zAwr A n t x y m = true
  · right
    have hm0 : m ≠ 0 := fun q => by rw [q, hA0] at hb; cases hb
    rw [zFind_hitL hb 40 1 (by omega) (by omega) (fun j h1 h2 => l3 j (by omega) h2), if_pos hb]
    exact ⟨by omega, rfl⟩
  · left
    have hm40 : m = 40 := by
      rcases Nat.lt_or_ge m (0 + 40) with h | h
      · exact absurd (l4 h) hb
      · omega
    rw [if_neg hb]
    refine ⟨zFind_noneL 40 1 (fun j h1 h2 => ?_), rfl⟩
    by_cases hj : j = 40
    · subst hj; rw [← hm40]; simpa using hb
    · exact l3 j (by omega) (by omega)
end FT
