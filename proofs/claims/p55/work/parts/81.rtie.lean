/-! rounds: the class's and the model's -/
theorem zTie.r {S : zS} {V : Nat → Nat} (h : zTie S 25 V) {r : Nat} (hr : r < 4) : V (41 + 5 * r + 0) = S (33 + 2 * r) 1 ∧ (r < S 25 4 → V (41 + 5 * r + 1) + S (33 + 2 * r) 2 = 1) ∧ V (41 + 5 * r + 2) = S (33 + 2 * r) 0 ∧ V (41 + 5 * r + 3) = S (33 + 2 * r) 3 ∧ V (41 + 5 * r + 4) = S (33 + 2 * r) 4 := h.2.2.2.2.2.2.1 r hr
theorem zTie.e {S : zS} {V : Nat → Nat} (h : zTie S 25 V) {e : Nat} (he : e < 12) : V (5 + e) = S 30 e ∧ V (17 + e) = S 31 e ∧ V (29 + e) = S 27 e := h.2.2.2.2.2.1 e he
theorem zTie.h {S : zS} {V : Nat → Nat} (h : zTie S 25 V) {r e : Nat} (hr : r < 4) (he : e < 12) : V (61 + 12 * r + e) = S (33 + 2 * r + 1) e := h.2.2.2.2.2.2.2 r hr e he
theorem zGd.r {S : zS} (h : zGd S 25) {r : Nat} (hr : r < 4) : zRb S (33 + 2 * r) := h.2.2.2.2.2.1 r hr
theorem zGd.rt {S : zS} (h : zGd S 25) {r : Nat} (hr : r < S 25 4) : S (33 + 2 * r) 3 &&& S (33 + 2 * r) 4 = 0 ∧ (∀ k, (S (33 + 2 * r) 3).testBit k = true → k < S 26 0) := h.2.2.2.2.2.2 r hr
theorem zHrd_at {S : zS} {o e : Nat} : ∀ n, zHrd S o n (o + 1) e = if e < n ∧ zHears S o e = true then S 25 5 else S (o + 1) e := by
  intro n
  induction n with
  | zero => rw [if_neg (by omega)]; rfl
  | succ n ih =>
    have e1 : zHrd S o (n + 1) = if zHears S o n = true then zU (zHrd S o n) (o + 1) n (S 25 5) else zHrd S o n := rfl
    rw [e1]
    by_cases hh : zHears S o n = true
    · rw [if_pos hh]
      by_cases he : e = n
      · subst he; rw [zU_s, if_pos ⟨Nat.lt_succ_self _, hh⟩]
      · rw [zU_j he, ih]
        by_cases h2 : e < n ∧ zHears S o e = true
        · rw [if_pos h2, if_pos ⟨by omega, h2.2⟩]
        · rw [if_neg h2, if_neg (fun h => h2 ⟨by omega, h.2⟩)]
    · rw [if_neg hh, ih]
      by_cases h2 : e < n ∧ zHears S o e = true
      · rw [if_pos h2, if_pos ⟨by omega, h2.2⟩]
      · rw [if_neg h2, if_neg (fun h => h2 ⟨by
          rcases Nat.lt_or_ge e n with h3 | h3
          · exact h3
          · exfalso; have : e = n := by omega
            subst this; exact hh h.2, h.2⟩)]
theorem mHrd_at {S : zS} {r h b : Nat} : ∀ n, mHrd S n r h 13 b = if 61 + 12 * r ≤ b ∧ b < 61 + 12 * r + n ∧ h.testBit (b - (61 + 12 * r)) = true then S 13 2 else S 13 b := by
  intro n
  induction n with
  | zero => rw [if_neg (by omega)]; rfl
  | succ n ih =>
    have e1 : mHrd S (n + 1) r h = if h.testBit n = true then zU (mHrd S n r h) 13 (61 + 12 * r + n) (S 13 2) else mHrd S n r h := rfl
    rw [e1]
    by_cases hh : h.testBit n = true
    · rw [if_pos hh]
      by_cases he : b = 61 + 12 * r + n
      · subst he; rw [zU_s, if_pos ⟨by omega, by omega, by rw [Nat.add_sub_cancel_left]; exact hh⟩]
      · rw [zU_j he, ih]
        by_cases h2 : 61 + 12 * r ≤ b ∧ b < 61 + 12 * r + n ∧ h.testBit (b - (61 + 12 * r)) = true
        · rw [if_pos h2, if_pos ⟨h2.1, by omega, h2.2.2⟩]
        · rw [if_neg h2, if_neg (fun h => h2 ⟨h.1, by omega, h.2.2⟩)]
    · rw [if_neg hh, ih]
      by_cases h2 : 61 + 12 * r ≤ b ∧ b < 61 + 12 * r + n ∧ h.testBit (b - (61 + 12 * r)) = true
      · rw [if_pos h2, if_pos ⟨h2.1, by omega, h2.2.2⟩]
      · rw [if_neg h2, if_neg (fun hx => h2 ⟨hx.1, by
          rcases Nat.lt_or_ge b (61 + 12 * r + n) with h3 | h3
          · exact h3
          · exfalso
            have : b = 61 + 12 * r + n := by omega
            subst this
            rw [Nat.add_sub_cancel_left] at hx
            exact hh hx.2.2, hx.2.2⟩)]
theorem zSpread_at {A : zS} {o n : Nat} (h2 : ¬ A o 2 = 0) : (zSpread A o n).1 = zpop (zBel A o n) ∧ (zSpread A o n).2 o 0 = A o 0 ∧ (zSpread A o n).2 o 1 = (if zBel A o n = 0 then A o 1 - 1 else A o 1) ∧ (zSpread A o n).2 o 2 = A o 2 ∧ (zSpread A o n).2 o 3 = A o 3 ||| zBel A o n ∧ (zSpread A o n).2 o 4 = A o 4 ||| zDbt A o n ∧ (∀ e, (zSpread A o n).2 (o + 1) e = if e < n ∧ zHears A o e = true then A 25 5 else A (o + 1) e) := by
  have hh : ∀ k, zHrd A o n o k = A o k := fun k => zHrd_off (by omega)
  unfold zSpread
  rw [if_neg h2]
  dsimp only
  by_cases hb : zBel A o n = 0
  · rw [if_pos hb]
    refine ⟨rfl, ?_, ?_, ?_, ?_, ?_, fun e => ?_⟩
    · rw [zU_j (by decide), zU_j (by decide), zU_j (by decide), hh]
    · rw [zU_s, if_pos hb]
    · rw [zU_j (by decide), zU_j (by decide), zU_j (by decide), hh]
    · rw [zU_j (by decide), zU_j (by decide), zU_s]
    · rw [zU_j (by decide), zU_s]
    · rw [zU_o (by omega), zU_o (by omega), zU_o (by omega)]; exact zHrd_at n
  · rw [if_neg hb]
    refine ⟨rfl, ?_, ?_, ?_, ?_, ?_, fun e => ?_⟩
    · rw [zU_j (by decide), zU_j (by decide), hh]
    · rw [zU_j (by decide), zU_j (by decide), hh, if_neg hb]
    · rw [zU_j (by decide), zU_j (by decide), hh]
    · rw [zU_j (by decide), zU_s]
    · rw [zU_s]
    · rw [zU_o (by omega), zU_o (by omega)]; exact zHrd_at n
section TIE
variable {A B : zS} {r : Nat}
theorem tie_hr (T : zTie A 25 (B 13)) (hr : r < 4) {e : Nat} (he : e < 12) : mHrB B r e = zHears A (33 + 2 * r) e := by
  obtain ⟨-, -, -, h3, h4⟩ := T.r hr
  unfold mHrB zHears
  rw [h3, h4, (T.e he).2.2]
theorem tie_bl (T : zTie A 25 (B 13)) (hr : r < 4) {e : Nat} (he : e < 12) : mBlB B r e = zBelv A (33 + 2 * r) e := by
  obtain ⟨h0, -, -, h3, h4⟩ := T.r hr
  unfold mBlB zBelv
  rw [h0, h3, (T.e he).2.2, (T.e he).2.1]
theorem tie_hears (T : zTie A 25 (B 13)) (hr : r < 4) (hrt : r < A 25 4) (hal : A (33 + 2 * r) 2 = 1) {n : Nat} (hn : n ≤ 12) : mHears B n r = zmask n (zHears A (33 + 2 * r)) := by
  have h1 := (T.r hr).2.1 hrt
  unfold mHears
  rw [if_neg (by omega), zmk_mask]
  exact zmask_congr (fun e he => tie_hr T hr (by omega))
theorem tie_bel (T : zTie A 25 (B 13)) (hr : r < 4) (hrt : r < A 25 4) (hal : A (33 + 2 * r) 2 = 1) {n : Nat} (hn : n ≤ 12) : mBel B n r = zBel A (33 + 2 * r) n := by
  unfold mBel zBel
  rw [zmk_mask]
  refine zmask_congr (fun e he => ?_)
  rw [tie_hears T hr hrt hal hn, zmask_bit, decide_eq_true he, tie_bl T hr (by omega)]; rfl
theorem zDbt_is {o n : Nat} (hn : n ≤ 12) : zmask n (zHears A o) &&& (zBel A o n ^^^ 4294967295) = zDbt A o n := by
  have hm : zmask n (zHears A o) < 4096 := zmask_lt hn _
  refine zEq12 (zAnd_lt hm) (zmask_lt hn _) (fun k hk => ?_)
  unfold zBel zDbt
  rw [zAndNot (by omega), zmask_bit, zmask_bit, zmask_bit]
  cases decide (k < n) <;> cases zHears A o k <;> cases zBelv A o k <;> rfl
theorem zBelDbt {o n : Nat} (hn : n ≤ 12) : zBel A o n ||| zDbt A o n = zmask n (zHears A o) := by
  refine zEq12 (zOr_lt (zmask_lt hn _) (zmask_lt hn _)) (zmask_lt hn _) (fun k hk => ?_)
  unfold zBel zDbt
  rw [Nat.testBit_or, zmask_bit, zmask_bit, zmask_bit]
  cases decide (k < n) <;> cases zHears A o k <;> cases zBelv A o k <;> rfl
theorem zHears_aw {o e : Nat} (h : zHears A o e = true) : (A o 3 ||| A o 4).testBit e = false := by
  unfold zHears at h
  simp only [Bool.and_eq_true, Bool.not_eq_true'] at h
  exact h.1
theorem zOr4 (a b c d : Nat) : (a ||| b) ||| (c ||| d) = (a ||| c) ||| (b ||| d) := by
  rw [Nat.or_assoc, Nat.or_assoc, ← Nat.or_assoc b c d, Nat.or_comm b c, Nat.or_assoc c b d]
theorem aw_pop {o n : Nat} (hn : n ≤ 12) : zpop ((A o 3 ||| zBel A o n) ||| (A o 4 ||| zDbt A o n)) = zpop (A o 3 ||| A o 4) + zpop (zmask n (zHears A o)) := by
  have e : (A o 3 ||| zBel A o n) ||| (A o 4 ||| zDbt A o n) = (A o 3 ||| A o 4) ||| zmask n (zHears A o) := by
    rw [zOr4, zBelDbt hn]
  rw [e, zpop_or]
  rw [zAnd0]
  rintro k ⟨h1, h2⟩
  rw [zmask_bit] at h2
  simp only [Bool.and_eq_true] at h2
  have h3 := zHears_aw h2.2
  rw [h1] at h3
  exact absurd h3 (by decide)
theorem mSpr_c {n : Nat} (hr : r < 4) : mSpr B n r 13 3 = B 13 3 + zpop (mHears B n r) := by
  unfold mSpr; rw [zU_j (by omega), zU_j (by omega), zU_j (by omega), zU_s]
theorem mSpr_hi {n b : Nat} (hr : r < 4) (hb : 61 ≤ b) : mSpr B n r 13 b = mHrd B n r (mHears B n r) 13 b := by
  unfold mSpr; rw [zU_j (by omega), zU_j (by omega), zU_j (by omega), zU_j (by omega)]
/-- the state behind one spreading -/
theorem zPass1_at {n k : Nat} (hn : n ≤ 12) (hr : r < 4) (hal : A (33 + 2 * r) 2 = 1) :
    (zPass1 n r (k, A)).1 = k + zpop (zBel A (33 + 2 * r) n) ∧ (zPass1 n r (k, A)).2 25 6 = A 25 6 + zpop (zmask n (zHears A (33 + 2 * r))) ∧ (∀ j, (zPass1 n r (k, A)).2 (33 + 2 * r) j = (zSpread A (33 + 2 * r) n).2 (33 + 2 * r) j) ∧ (∀ e, (zPass1 n r (k, A)).2 (33 + 2 * r + 1) e = (zSpread A (33 + 2 * r) n).2 (33 + 2 * r + 1) e) ∧ (∀ a b, a ≠ 33 + 2 * r → a ≠ 33 + 2 * r + 1 → a ≠ 25 ∨ b ≠ 6 → (zPass1 n r (k, A)).2 a b = A a b) := by
  have hs := zSpread_at (A := A) (o := 33 + 2 * r) (n := n) (by omega)
  unfold zPass1
  dsimp only
  refine ⟨by rw [hs.1], ?_, fun j => zU_o (by omega), fun e => zU_o (by omega), fun a b h1 h2 h3 => ?_⟩
  · rw [zU_s, zSpread_off (by omega) (by omega), hs.2.2.2.2.1, hs.2.2.2.2.2.1, aw_pop hn, Nat.add_sub_cancel_left]
  · have : zU (zSpread A (33 + 2 * r) n).2 25 6 ((zSpread A (33 + 2 * r) n).2 25 6 + (zpop ((zSpread A (33 + 2 * r) n).2 (33 + 2 * r) 3 ||| (zSpread A (33 + 2 * r) n).2 (33 + 2 * r) 4) - zpop (A (33 + 2 * r) 3 ||| A (33 + 2 * r) 4))) a b = (zSpread A (33 + 2 * r) n).2 a b := by
      rcases h3 with h3 | h3
      · exact zU_o h3
      · exact zU_j h3
    rw [this]
    exact zSpread_off h1 h2
theorem zPass1_dead {n k : Nat} (hal : A (33 + 2 * r) 2 = 0) : (zPass1 n r (k, A)).1 = k ∧ (∀ a b, (zPass1 n r (k, A)).2 a b = A a b) := by
  have hs : zSpread A (33 + 2 * r) n = (0, A) := by unfold zSpread; rw [if_pos hal]
  unfold zPass1
  dsimp only
  rw [hs]
  dsimp only
  refine ⟨rfl, fun a b => ?_⟩
  rw [Nat.sub_self, Nat.add_zero]
  unfold zU; split
  · rename_i h; rw [h.1, h.2]
  · rfl
theorem tie_pass1 (T : zTie A 25 (B 13)) (G : zGd A 25) (hr : r < 4) (hrt : r < A 25 4) {k : Nat} : (zPass1 (A 26 0) r (k, A)).1 = (mP1 (A 26 0) r (k, B)).1 ∧ zTie (zPass1 (A 26 0) r (k, A)).2 25 ((mP1 (A 26 0) r (k, B)).2 13) ∧ zGd (zPass1 (A 26 0) r (k, A)).2 25 := by
  have hn : A 26 0 ≤ 12 := G.1
  have hden := (T.r hr).2.1 hrt
  have hb2 := (G.r hr).2.1
  by_cases hal : A (33 + 2 * r) 2 = 0
  · obtain ⟨d1, d2⟩ := zPass1_dead (A := A) (r := r) (n := A 26 0) (k := k) hal
    have hm : mP1 (A 26 0) r (k, B) = (k, B) := by unfold mP1; rw [if_pos (show B 13 (41 + 5 * r + 1) = 1 by omega)]
    rw [hm]
    refine ⟨d1, T.scene (d2 _ _) (fun _ _ _ => d2 _ _) (fun _ _ => ⟨d2 _ _, d2 _ _, d2 _ _⟩) (fun _ _ => ⟨fun _ _ => d2 _ _, fun _ _ => d2 _ _⟩), G.scene (fun _ _ => d2 _ _) (fun _ _ _ => d2 _ _) (fun _ _ => ⟨d2 _ _, d2 _ _, d2 _ _⟩) (fun _ _ _ _ => d2 _ _)⟩
  · have hal1 : A (33 + 2 * r) 2 = 1 := by omega
    obtain ⟨p1, p2, p3, p4, p5⟩ := zPass1_at (A := A) (k := k) hn hr hal1
    have hs := zSpread_at (A := A) (o := 33 + 2 * r) (n := A 26 0) (by omega)
    obtain ⟨s1, s2, s3, s4, s5, s6, s7⟩ := hs
    have hm : mP1 (A 26 0) r (k, B) = (k + zpop (mBel B (A 26 0) r), mSpr B (A 26 0) r) := by unfold mP1; rw [if_neg (show ¬ B 13 (41 + 5 * r + 1) = 1 by omega)]
    have hbel := tie_bel T hr hrt hal1 hn
    have hhe := tie_hears T hr hrt hal1 hn
    obtain ⟨t0, t1, t2, t3, t4, t5, t6, t7⟩ := id T
    rw [hm]
    refine ⟨by rw [p1, hbel], ?_, ?_⟩
    · refine ⟨?_, ?_, ?_, ?_, ?_, fun e he => ?_, fun q hq => ?_, fun q hq e he => ?_⟩
      · rw [p5 _ _ (by omega) (by omega) (Or.inl (by decide))]; exact (mSpr_lo (by decide) (Or.inl (by omega)) (by decide)).trans t0
      · rw [p5 _ _ (by omega) (by omega) (Or.inr (by decide))]; exact (mSpr_lo (by decide) (Or.inl (by omega)) (by decide)).trans t1
      · rw [p5 _ _ (by omega) (by omega) (Or.inr (by decide))]; exact (mSpr_lo (by decide) (Or.inl (by omega)) (by decide)).trans t2
      · rw [p2]
        show mSpr B (A 26 0) r 13 3 = _
        rw [mSpr_c hr, hhe, t3]
      · rw [p5 _ _ (by omega) (by omega) (Or.inr (by decide))]; exact (mSpr_lo (by decide) (Or.inl (by omega)) (by decide)).trans t4
      · show mSpr B (A 26 0) r 13 (5 + e) = _ ∧ mSpr B (A 26 0) r 13 (17 + e) = _ ∧ mSpr B (A 26 0) r 13 (29 + e) = _
        rw [p5 _ _ (by omega) (by omega) (Or.inl (by decide)), p5 _ _ (by omega) (by omega) (Or.inl (by decide)), p5 _ _ (by omega) (by omega) (Or.inl (by decide)), mSpr_lo (by omega) (Or.inl (by omega)) (by omega), mSpr_lo (by omega) (Or.inl (by omega)) (by omega), mSpr_lo (by omega) (Or.inl (by omega)) (by omega)]
        exact t5 e he
      · show mSpr B (A 26 0) r 13 (41 + 5 * q + 0) = _ ∧ (_ → mSpr B (A 26 0) r 13 (41 + 5 * q + 1) + _ = 1) ∧ mSpr B (A 26 0) r 13 (41 + 5 * q + 2) = _ ∧ mSpr B (A 26 0) r 13 (41 + 5 * q + 3) = _ ∧ mSpr B (A 26 0) r 13 (41 + 5 * q + 4) = _
        rw [p5 25 4 (by omega) (by omega) (Or.inr (by decide))]
        obtain ⟨q0, q1, q2, q3, q4⟩ := T.r hq
        by_cases e : q = r
        · subst e
          rw [show 25 + 8 + 2 * q = 33 + 2 * q from by omega, p3, p3, p3, p3, p3, s2, s3, s4, s5, s6, mSpr_0, mSpr_1 hr, mSpr_2 hr, mSpr_3, mSpr_4, hbel, hhe, zDbt_is hn, q0, q2, q3, q4]
          exact ⟨rfl, q1, rfl, rfl, rfl⟩
        · have h5 : ∀ j, j < 5 → mSpr B (A 26 0) r 13 (41 + 5 * q + j) = B 13 (41 + 5 * q + j) := fun j hj => mSpr_lo (by omega) (by omega) (by omega)
          have h6 : ∀ j, (zPass1 (A 26 0) r (k, A)).2 (25 + 8 + 2 * q) j = A (33 + 2 * q) j := fun j => (p5 _ _ (by omega) (by omega) (Or.inl (by omega))).trans (by rw [show 25 + 8 + 2 * q = 33 + 2 * q from by omega])
          rw [h5 0 (by decide), h5 1 (by decide), h5 2 (by decide), h5 3 (by decide), h5 4 (by decide), h6, h6, h6, h6, h6]
          exact ⟨q0, q1, q2, q3, q4⟩
      · show mSpr B (A 26 0) r 13 (61 + 12 * q + e) = _
        rw [mSpr_hi hr (by omega), mHrd_at, hhe]
        by_cases e2 : q = r
        · subst e2
          rw [show 25 + 8 + 2 * q + 1 = 33 + 2 * q + 1 from by omega, p4, s7, Nat.add_sub_cancel_left, zmask_bit]
          by_cases h9 : e < A 26 0 ∧ zHears A (33 + 2 * q) e = true
          · rw [if_pos ⟨by omega, by omega, by rw [decide_eq_true h9.1, h9.2]; rfl⟩, if_pos h9]; exact t2
          · rw [if_neg (fun h => h9 ⟨by omega, by
              have h8 := h.2.2
              simp only [Bool.and_eq_true] at h8
              exact h8.2⟩), if_neg h9]
            exact T.h hq he
        · rw [if_neg (by omega)]
          exact (T.h hq he).trans (by rw [p5 _ _ (by omega) (by omega) (Or.inl (by omega))])
    · have hgd := G
      obtain ⟨a0, a1, a2, a3, a4, a5, a6⟩ := hgd
      have f : ∀ a b, a ≠ 33 + 2 * r → a ≠ 33 + 2 * r + 1 → a ≠ 25 ∨ b ≠ 6 → (zPass1 (A 26 0) r (k, A)).2 a b = A a b := p5
      have e1 : (zPass1 (A 26 0) r (k, A)).2 26 0 = A 26 0 := f _ _ (by omega) (by omega) (Or.inl (by decide))
      have e27 : ∀ e, (zPass1 (A 26 0) r (k, A)).2 27 e = A 27 e := fun e => f _ _ (by omega) (by omega) (Or.inl (by decide))
      refine ⟨?_, ?_, fun e he => ?_, fun e k2 he hk => ?_, ?_, fun q hq => ?_, fun q hq => ?_⟩
      · show (zPass1 (A 26 0) r (k, A)).2 26 0 ≤ 12; rw [e1]; exact a0
      · rw [f 25 4 (by omega) (by omega) (Or.inr (by decide))]; exact a1
      · show (zPass1 (A 26 0) r (k, A)).2 27 e < 4096 ∧ (zPass1 (A 26 0) r (k, A)).2 30 e < 4 ∧ (zPass1 (A 26 0) r (k, A)).2 31 e ≤ 9
        rw [e27, f 30 e (by omega) (by omega) (Or.inl (by decide)), f 31 e (by omega) (by omega) (Or.inl (by decide))]; exact a2 e he
      · have hk : (A 27 e).testBit k2 = true := (e27 e) ▸ hk
        show e < (zPass1 (A 26 0) r (k, A)).2 26 0 ∧ k2 < (zPass1 (A 26 0) r (k, A)).2 26 0 ∧ k2 ≠ e ∧ ((zPass1 (A 26 0) r (k, A)).2 27 k2).testBit e = true
        rw [e1, e27]; exact a3 e k2 he hk
      · show (zPass1 (A 26 0) r (k, A)).2 26 1 % 4294967296 * 2 = zIt (fun e s => s + zpop ((zPass1 (A 26 0) r (k, A)).2 27 e)) 12 0
        rw [f 26 1 (by omega) (by omega) (Or.inl (by decide)), show (fun e s => s + zpop ((zPass1 (A 26 0) r (k, A)).2 27 e)) = (fun e s => s + zpop (A 27 e)) from funext (fun e => by rw [e27])]
        exact a4
      · by_cases e : q = r
        · subst e
          have h := zSpread_rb (S := A) (o := 33 + 2 * q) (n := A 26 0) hn (G.r hq)
          exact zRb.same (o := 33 + 2 * q) h (fun j => p3 j)
        · exact zRb.same (o := 33 + 2 * q) (G.r hq) (fun j => f _ _ (by omega) (by omega) (Or.inl (by omega)))
      · rw [f 25 4 (by omega) (by omega) (Or.inr (by decide))] at hq
        show (zPass1 (A 26 0) r (k, A)).2 (33 + 2 * q) 3 &&& (zPass1 (A 26 0) r (k, A)).2 (33 + 2 * q) 4 = 0 ∧ ∀ k2, ((zPass1 (A 26 0) r (k, A)).2 (33 + 2 * q) 3).testBit k2 = true → k2 < (zPass1 (A 26 0) r (k, A)).2 26 0
        rw [e1]
        by_cases e : q = r
        · subst e
          have g := G.rt hq
          rw [p3, p3, s5, s6]
          constructor
          · rw [zAnd0]
            rintro k2 ⟨h1, h2⟩
            rw [Nat.testBit_or] at h1 h2
            unfold zBel at h1
            unfold zDbt at h2
            rw [zmask_bit] at h1 h2
            have g1 := zAnd0.mp g.1 k2
            have g2 : zHears A (33 + 2 * q) k2 = true → (A (33 + 2 * q) 3).testBit k2 = false ∧ (A (33 + 2 * q) 4).testBit k2 = false := fun h => by
              have := zHears_aw h
              rw [Nat.testBit_or] at this
              simpa using this
            cases x1 : (A (33 + 2 * q) 3).testBit k2 <;> cases x2 : (A (33 + 2 * q) 4).testBit k2 <;> cases x3 : zHears A (33 + 2 * q) k2 <;> cases x4 : zBelv A (33 + 2 * q) k2 <;> simp_all
          · intro k2 h1
            rw [Nat.testBit_or] at h1
            unfold zBel at h1
            rw [zmask_bit] at h1
            cases x1 : (A (33 + 2 * q) 3).testBit k2 with
            | true => exact g.2 k2 x1
            | false =>
              rw [x1] at h1
              simp only [Bool.false_or, Bool.and_eq_true, decide_eq_true_eq] at h1
              exact h1.1
        · have h6 : ∀ j, (zPass1 (A 26 0) r (k, A)).2 (33 + 2 * q) j = A (33 + 2 * q) j := fun j => f _ _ (by omega) (by omega) (Or.inl (by omega))
          rw [h6, h6]; exact G.rt hq
end TIE
