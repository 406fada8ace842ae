/-! components and ways, tied -/
section CP
variable {A B : zS} {n t : Nat}
theorem tie_net (T : zTie A 25 (B 13)) (G : zGd A 25) (hn : A 26 0 = n) : rNet (B 13) n := by
  refine ⟨hn ▸ G.1, fun e he => by rw [(T.e he).2.2]; exact (G.2.2.1 e he).1, fun e k he h => ?_⟩
  rw [(T.e he).2.2] at h
  have g := G.2.2.2.1 e k he h
  have hn2 : A (25 + 1) 0 = n := hn
  have hz : n ≤ 12 := hn ▸ G.1
  refine ⟨by omega, by omega, g.2.2.1, ?_⟩
  rw [(T.e (e := k) (by omega)).2.2]; exact g.2.2.2
theorem zAround_bit {S : zS} {g n k : Nat} : (zAround S g n).testBit k = true ↔ ∃ e, e < n ∧ g.testBit e = true ∧ (S 27 e).testBit k = true := by
  unfold zAround
  induction n with
  | zero =>
    constructor
    · intro h
      rw [show zIt (fun i r => if g.testBit i then r ||| S 27 i else r) 0 0 = 0 from rfl, Nat.zero_testBit] at h; cases h
    · rintro ⟨e, he, -⟩; omega
  | succ n ih =>
    rw [zIt]
    by_cases h : g.testBit n = true
    · rw [if_pos h, Nat.testBit_or, Bool.or_eq_true, ih]
      constructor
      · rintro (⟨e, h1, h2, h3⟩ | h1)
        · exact ⟨e, by omega, h2, h3⟩
        · exact ⟨n, by omega, h, h1⟩
      · rintro ⟨e, h1, h2, h3⟩
        by_cases he : e = n
        · subst he; exact Or.inr h3
        · exact Or.inl ⟨e, by omega, h2, h3⟩
    · rw [if_neg h, ih]
      constructor
      · rintro ⟨e, h1, h2, h3⟩; exact ⟨e, by omega, h2, h3⟩
      · rintro ⟨e, h1, h2, h3⟩
        have he : e ≠ n := fun q => h (q ▸ h2)
        exact ⟨e, by omega, h2, h3⟩
theorem zEqBit {x y : Nat} (h : ∀ k, x.testBit k = true ↔ y.testBit k = true) : x = y :=
  Nat.eq_of_testBit_eq (fun k => Bool.eq_iff_iff.mpr (h k))
theorem tie_step (T : zTie A 25 (B 13)) (G : zGd A 25) (hn : A 26 0 = n) {p : Nat} : p ||| zAround A p n = rStep (B 13) n p p := by
  have hz : n ≤ 12 := hn ▸ G.1
  refine zEqBit (fun k => ?_)
  rw [Nat.testBit_or, Bool.or_eq_true, zAround_bit, rStep_bit]
  constructor
  · rintro (h | ⟨e, h1, h2, h3⟩)
    · exact Or.inl h
    · exact Or.inr ⟨e, h1, h2, by rw [(T.e (e := e) (by omega)).2.2]; exact h3⟩
  · rintro (h | ⟨e, h1, h2, h3⟩)
    · exact Or.inl h
    · exact Or.inr ⟨e, h1, h2, by rw [(T.e (e := e) (by omega)).2.2] at h3; exact h3⟩
theorem tie_piece (T : zTie A 25 (B 13)) (G : zGd A 25) (hn : A 26 0 = n) {e : Nat} (he : e < n) : zPiece A n e = rClo (B 13) n (1 * 2 ^ e) := by
  have N := tie_net T G hn
  have hz := N.1
  have h : ∀ m, zIt (fun _ p => p ||| zAround A p n) m (1 * 2 ^ e) = rE (B 13) n (1 * 2 ^ e) m := by
    intro m
    induction m with
    | zero => rfl
    | succ m ih => rw [zIt, ih, tie_step T G hn]; rfl
  unfold zPiece rClo
  rw [h, rE_full N (zOne_lt (by omega)) (fun q hq => by rw [zOne_in hq]; exact he) zOne_bit (j := 12) (by omega)]
/-- the first of a component -/
theorem rFirst (N : rNet (B 13) n) {i : Nat} (hi : i < n) : (rClo (B 13) n (1 * 2 ^ i) &&& (1 * 2 ^ i - 1) == 0) = true ↔ ∀ j, j < i → ¬ rC (B 13) n i j := by
  rw [beq_iff_eq, zAnd0]
  have hb : ∀ j, (1 * 2 ^ i - 1).testBit j = decide (j < i) := fun j => by rw [Nat.one_mul, Nat.testBit_two_pow_sub_one]
  constructor
  · intro h j hj hc
    exact h j ⟨hc, by rw [hb]; exact decide_eq_true hj⟩
  · rintro h j ⟨h1, h2⟩
    rw [hb] at h2
    exact h j (of_decide_eq_true h2) h1
theorem tie_search (T : zTie A 25 (B 13)) (G : zGd A 25) (hn : A 26 0 = n) : (zSearch A n).1 = zcnt n (fun e => rClo (B 13) n (1 * 2 ^ e) &&& (1 * 2 ^ e - 1) == 0) := by
  have N := tie_net T G hn
  have hz := N.1
  have hall : ∀ m, m ≤ n → (zIt (fun i (q : Nat × Nat) => if q.2.testBit i then q else (q.1 + 1, q.2 ||| zPiece A n i)) m (0, 0)).1 = zcnt m (fun e => rClo (B 13) n (1 * 2 ^ e) &&& (1 * 2 ^ e - 1) == 0) ∧ ∀ k, (zIt (fun i (q : Nat × Nat) => if q.2.testBit i then q else (q.1 + 1, q.2 ||| zPiece A n i)) m (0, 0)).2.testBit k = true ↔ ∃ j, j < m ∧ rC (B 13) n j k := by
    intro m
    induction m with
    | zero =>
      refine fun _ => ⟨rfl, fun k => ?_⟩
      constructor
      · intro h
        rw [show (zIt (fun i (q : Nat × Nat) => if q.2.testBit i then q else (q.1 + 1, q.2 ||| zPiece A n i)) 0 (0, 0)).2 = 0 from rfl, Nat.zero_testBit] at h; cases h
      · rintro ⟨j, hj, -⟩; omega
    | succ m ih =>
      intro hm
      obtain ⟨i1, i2⟩ := ih (by omega)
      rw [zIt, zcnt_s]
      obtain ⟨q, hq⟩ : ∃ q, zIt (fun i (q : Nat × Nat) => if q.2.testBit i then q else (q.1 + 1, q.2 ||| zPiece A n i)) m (0, 0) = q := ⟨_, rfl⟩
      rw [hq] at i1 i2 ⊢
      by_cases h : q.2.testBit m = true
      · rw [if_pos h]
        obtain ⟨j, hj, hc⟩ := (i2 m).mp h
        have hf : (rClo (B 13) n (1 * 2 ^ m) &&& (1 * 2 ^ m - 1) == 0) = false := by
          cases hb : (rClo (B 13) n (1 * 2 ^ m) &&& (1 * 2 ^ m - 1) == 0) with
          | false => rfl
          | true => exact absurd (rC_symm N (by omega) hc) ((rFirst N (by omega)).mp hb j hj)
        rw [hf, i1]
        refine ⟨rfl, fun k => (i2 k).trans ⟨fun ⟨a, ha, hac⟩ => ⟨a, by omega, hac⟩, fun ⟨a, ha, hac⟩ => ?_⟩⟩
        by_cases ham : a = m
        · subst ham; exact ⟨j, hj, rC_trans N (by omega) hc hac⟩
        · exact ⟨a, by omega, hac⟩
      · rw [if_neg h]
        have ht : (rClo (B 13) n (1 * 2 ^ m) &&& (1 * 2 ^ m - 1) == 0) = true := (rFirst N (by omega)).mpr (fun j hj hc => h ((i2 m).mpr ⟨j, hj, rC_symm N (by omega) hc⟩))
        rw [ht, i1]
        refine ⟨rfl, fun k => ?_⟩
        show (q.2 ||| zPiece A n m).testBit k = true ↔ _
        rw [Nat.testBit_or, Bool.or_eq_true, i2, tie_piece T G hn (by omega)]
        constructor
        · rintro (⟨a, ha, hac⟩ | hac)
          · exact ⟨a, by omega, hac⟩
          · exact ⟨m, by omega, hac⟩
        · rintro ⟨a, ha, hac⟩
          by_cases ham : a = m
          · subst ham; exact Or.inr hac
          · exact Or.inl ⟨a, by omega, hac⟩
  exact (hall n (Nat.le_refl _)).1
/-- the steps found by search -/
theorem rDist_hit {V : Nat → Nat} {n g y m : Nat} (h : ¬ rE V n (1 * 2 ^ y) m &&& g = 0) (hb : ∀ j, j < m → rE V n (1 * 2 ^ y) j &&& g = 0) : ∀ k i, i ≤ m → m < i + k → rDist V n g k i (rE V n (1 * 2 ^ y) i) = m := by
  intro k
  induction k with
  | zero => intro i h1 h2; omega
  | succ k ih =>
    intro i h1 h2
    rw [rDist]
    by_cases hi : i = m
    · rw [if_pos (hi ▸ h)]; exact hi
    · rw [if_neg (fun q => q (hb i (by omega)))]
      by_cases hs : rStep V n (rE V n (1 * 2 ^ y) i) (rE V n (1 * 2 ^ y) i) = rE V n (1 * 2 ^ y) i
      · exfalso
        apply h
        have := rE_stable (V := V) (n := n) (g := 1 * 2 ^ y) (i := i) (by rw [rE_s]; exact hs) (m - i)
        rw [show i + (m - i) = m from by omega] at this
        rw [this]; exact hb i (by omega)
      · rw [if_neg hs, ← rE_s]; exact ih (i + 1) (by omega) (by omega)
theorem rDist_none {V : Nat → Nat} {n g y : Nat} (hb : ∀ j, rE V n (1 * 2 ^ y) j &&& g = 0) : ∀ k i, rDist V n g k i (rE V n (1 * 2 ^ y) i) = 4294967295 := by
  intro k
  induction k with
  | zero => intro i; rfl
  | succ k ih =>
    intro i
    rw [rDist, if_neg (fun q => q (hb i))]
    split
    · rfl
    · rw [← rE_s]; exact ih (i + 1)
theorem tie_bfs_gen (T : zTie A 25 (B 13)) (G : zGd A 25) (hn : A 26 0 = n) {g y : Nat} : ∀ k i edge, (∀ j, j < i → rE (B 13) n (1 * 2 ^ y) j &&& g = 0) → (edge &&& g = 0 ↔ rE (B 13) n (1 * 2 ^ y) i &&& g = 0) → (∀ q, edge.testBit q = true → (rE (B 13) n (1 * 2 ^ y) i).testBit q = true) → (∀ e q, e < n → (rE (B 13) n (1 * 2 ^ y) i).testBit e = true → edge.testBit e = false → (B 13 (29 + e)).testBit q = true → (rE (B 13) n (1 * 2 ^ y) i).testBit q = true) → zBfs A g n k i edge (rE (B 13) n (1 * 2 ^ y) i) = zBfs A g n k i edge (rE (B 13) n (1 * 2 ^ y) i) ∧ (zBfs A g n k i edge (rE (B 13) n (1 * 2 ^ y) i) = 4294967295 ∧ (∀ j, j < i + k → rE (B 13) n (1 * 2 ^ y) j &&& g = 0) ∨ ∃ m, m < i + k ∧ zBfs A g n k i edge (rE (B 13) n (1 * 2 ^ y) i) = m ∧ ¬ rE (B 13) n (1 * 2 ^ y) m &&& g = 0 ∧ ∀ j, j < m → rE (B 13) n (1 * 2 ^ y) j &&& g = 0) := by
  have hz : n ≤ 12 := hn ▸ G.1
  have N := tie_net T G hn
  intro k
  induction k with
  | zero => intro i edge hb _ _ _; exact ⟨rfl, Or.inl ⟨rfl, fun j hj => hb j (by omega)⟩⟩
  | succ k ih =>
    intro i edge hb he hin hcl
    refine ⟨rfl, ?_⟩
    rw [zBfs]
    by_cases h : edge &&& g = 0
    · rw [if_pos h]
      have h0 := he.mp h
      have hlt : ∀ q, (zAround A edge n).testBit q = true → q < 32 := fun q hq => by
        obtain ⟨e, e1, e2, e3⟩ := zAround_bit.mp hq
        rw [← (T.e (e := e) (by omega)).2.2] at e3
        have := (N.2.2 e q (by omega) e3).2.1
        omega
      have hedge : ∀ q, (zAround A edge n &&& (rE (B 13) n (1 * 2 ^ y) i ^^^ 4294967295)).testBit q = true ↔ (zAround A edge n).testBit q = true ∧ (rE (B 13) n (1 * 2 ^ y) i).testBit q = false := fun q => by
        by_cases hq : q < 32
        · rw [zAndNot hq, Bool.and_eq_true, Bool.not_eq_true']
        · constructor
          · intro hh
            rw [Nat.testBit_and, Bool.and_eq_true] at hh
            exact absurd (hlt q hh.1) hq
          · rintro ⟨h1, -⟩
            exact absurd (hlt q h1) hq
      have hseen : rE (B 13) n (1 * 2 ^ y) i ||| (zAround A edge n &&& (rE (B 13) n (1 * 2 ^ y) i ^^^ 4294967295)) = rE (B 13) n (1 * 2 ^ y) (i + 1) := by
        refine zEqBit (fun q => ?_)
        rw [Nat.testBit_or, Bool.or_eq_true, hedge, rE_bit]
        constructor
        · rintro (h1 | ⟨h1, -⟩)
          · exact Or.inl h1
          · obtain ⟨e, e1, e2, e3⟩ := zAround_bit.mp h1
            exact Or.inr ⟨e, e1, hin e e2, by rw [(T.e (e := e) (by omega)).2.2]; exact e3⟩
        · rintro (h1 | ⟨e, e1, e2, e3⟩)
          · exact Or.inl h1
          · cases hs : (rE (B 13) n (1 * 2 ^ y) i).testBit q with
            | true => exact Or.inl rfl
            | false =>
              right
              refine ⟨zAround_bit.mpr ⟨e, e1, ?_, by rw [← (T.e (e := e) (by omega)).2.2]; exact e3⟩, rfl⟩
              cases hd : edge.testBit e with
              | true => rfl
              | false =>
                have := hcl e q e1 e2 hd e3
                rw [hs] at this; cases this
      rw [hseen]
      have hb1 : ∀ j, j < i + 1 → rE (B 13) n (1 * 2 ^ y) j &&& g = 0 := fun j hj => by
        by_cases hji : j = i
        · rw [hji]; exact h0
        · exact hb j (by omega)
      have hh := ih (i + 1) (zAround A edge n &&& (rE (B 13) n (1 * 2 ^ y) i ^^^ 4294967295)) hb1 ?_ ?_ ?_
      · have := hh.2
        rw [show i + (k + 1) = i + 1 + k from by omega]; exact this
      · rw [← hseen, zAnd0, zAnd0]
        constructor
        · rintro h1 q ⟨h2, h3⟩
          rw [Nat.testBit_or, Bool.or_eq_true] at h2
          rcases h2 with h2 | h2
          · exact zAnd0.mp h0 q ⟨h2, h3⟩
          · exact h1 q ⟨h2, h3⟩
        · rintro h1 q ⟨h2, h3⟩
          exact h1 q ⟨by rw [Nat.testBit_or, h2, Bool.or_true], h3⟩
      · intro q hq
        rw [← hseen, Nat.testBit_or, hq, Bool.or_true]
      · intro e q e1 e2 e3 e4
        have e5 : (rE (B 13) n (1 * 2 ^ y) i).testBit e = true := by
          rw [← hseen, Nat.testBit_or, e3, Bool.or_false] at e2; exact e2
        exact rE_bit.mpr (Or.inr ⟨e, e1, e5, e4⟩)
    · rw [if_neg h]
      exact Or.inr ⟨i, by omega, rfl, fun q => h (he.mpr q), hb⟩
theorem tie_bfs (T : zTie A 25 (B 13)) (G : zGd A 25) (hn : A 26 0 = n) {g y : Nat} (hy : y < n) : zBfs A g n n 0 (1 * 2 ^ y) (1 * 2 ^ y) = rDist (B 13) n g 13 0 (1 * 2 ^ y) := by
  have N := tie_net T G hn
  have hz := N.1
  have h := (tie_bfs_gen T G hn (g := g) (y := y) n 0 (1 * 2 ^ y) (fun j hj => by omega) Iff.rfl (fun q hq => hq) (fun e q _ h1 h2 _ => by
    have h1 : (1 * 2 ^ y).testBit e = true := h1
    rw [h2] at h1; cases h1)).2
  have hw : ∀ j, n - 1 ≤ j → rE (B 13) n (1 * 2 ^ y) j = rE (B 13) n (1 * 2 ^ y) (n - 1) := fun j hj => rE_full N (zOne_lt (by omega)) (fun q hq => by rw [zOne_in hq]; exact hy) zOne_bit hj
  rcases h with ⟨h1, h2⟩ | ⟨m, h1, h2, h3, h4⟩
  · have hall : ∀ j, rE (B 13) n (1 * 2 ^ y) j &&& g = 0 := fun j => by
      by_cases hj : j < 0 + n
      · exact h2 j hj
      · rw [hw j (by omega)]; exact h2 (n - 1) (by omega)
    have e := rDist_none hall 13 0
    exact h1.trans e.symm
  · have e := rDist_hit h3 h4 13 0 (by omega) (by omega)
    exact h2.trans e.symm
end CP
