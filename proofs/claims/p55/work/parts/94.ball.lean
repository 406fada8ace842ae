/-! balls of the net -/
section BL
variable {V : Nat → Nat} {n g : Nat}
theorem rStep_bit {w k : Nat} : (rStep V n w g).testBit k = true ↔ g.testBit k = true ∨ ∃ e, e < n ∧ w.testBit e = true ∧ (V (29 + e)).testBit k = true := by
  unfold rStep
  induction n with
  | zero => exact ⟨fun h => Or.inl h, fun h => by rcases h with h | ⟨e, he, -⟩; exact h; omega⟩
  | succ n ih =>
    rw [zIt]
    by_cases h : w.testBit n = true
    · rw [if_pos h, Nat.testBit_or, Bool.or_eq_true, ih]
      constructor
      · rintro ((h1 | ⟨e, h1, h2, h3⟩) | h1)
        · exact Or.inl h1
        · exact Or.inr ⟨e, by omega, h2, h3⟩
        · exact Or.inr ⟨n, by omega, h, h1⟩
      · rintro (h1 | ⟨e, h1, h2, h3⟩)
        · exact Or.inl (Or.inl h1)
        · by_cases he : e = n
          · subst he; exact Or.inr h3
          · exact Or.inl (Or.inr ⟨e, by omega, h2, h3⟩)
    · rw [if_neg h, ih]
      constructor
      · rintro (h1 | ⟨e, h1, h2, h3⟩)
        · exact Or.inl h1
        · exact Or.inr ⟨e, by omega, h2, h3⟩
      · rintro (h1 | ⟨e, h1, h2, h3⟩)
        · exact Or.inl h1
        · have he : e ≠ n := fun q => h (q ▸ h2)
          exact Or.inr ⟨e, by omega, h2, h3⟩
theorem rE_bit {i k : Nat} : (rE V n g (i + 1)).testBit k = true ↔ (rE V n g i).testBit k = true ∨ ∃ e, e < n ∧ (rE V n g i).testBit e = true ∧ (V (29 + e)).testBit k = true := by
  rw [rE_s]; exact rStep_bit
theorem rE_up {i j k : Nat} (h : (rE V n g i).testBit k = true) : (rE V n g (i + j)).testBit k = true := by
  induction j with
  | zero => exact h
  | succ j ih => exact rE_bit.mpr (Or.inl ih)
/-- a net: links both ways, below n -/
def rNet (V : Nat → Nat) (n : Nat) : Prop := n ≤ 12 ∧ (∀ e, e < 12 → V (29 + e) < 4096) ∧ ∀ e k, e < 12 → (V (29 + e)).testBit k = true → e < n ∧ k < n ∧ k ≠ e ∧ (V (29 + k)).testBit e = true
theorem rE_in (N : rNet V n) (hg : ∀ k, g.testBit k = true → k < n) : ∀ (i k : Nat), (rE V n g i).testBit k = true → k < n := by
  intro i
  induction i with
  | zero => exact hg
  | succ i ih =>
    intro k h
    rcases rE_bit.mp h with h | ⟨e, he, -, h2⟩
    · exact ih k h
    · exact (N.2.2 e k (Nat.lt_of_lt_of_le he N.1) h2).2.1
theorem zpop_leN {x : Nat} (hn : n ≤ 12) (h : ∀ k, x.testBit k = true → k < n) : zpop x ≤ n := by
  have e : zpop x = zcnt n (fun i => x.testBit i) := by
    unfold zpop
    refine zcnt_ext 12 hn (fun i hi => ?_)
    cases hb : x.testBit i with
    | false => rfl
    | true => have := h i hb; omega
  rw [e]
  have : ∀ m, zcnt m (fun i => x.testBit i) ≤ m := by
    intro m
    induction m with
    | zero => exact Nat.le_refl _
    | succ m ih => rw [zcnt_s]; cases x.testBit m <;> simp <;> omega
  exact this n
theorem zpop_pos {x k : Nat} (hx : x < 4096) (h : x.testBit k = true) : 1 ≤ zpop x := by
  rcases Nat.eq_zero_or_pos (zpop x) with h0 | h0
  · rw [zpop_eq0 hx h0, Nat.zero_testBit] at h; cases h
  · exact h0
theorem rE_grow (N : rNet V n) (hg : g < 4096) {y : Nat} (hy : g.testBit y = true) : ∀ i, i + 1 ≤ zpop (rE V n g i) ∨ rE V n g (i + 1) = rE V n g i := by
  intro i
  induction i with
  | zero => exact Or.inl (zpop_pos hg hy)
  | succ i ih =>
    rcases ih with h | h
    · by_cases e : rE V n g (i + 1) = rE V n g i
      · right; rw [rE_s, e, ← rE_s]; exact e
      · left
        have := zpop_lt (rE_lt (i := i) N.1 N.2.1 hg) (rE_lt (i := i + 1) N.1 N.2.1 hg) (fun k hk => rE_bit.mpr (Or.inl hk)) (fun q => e q.symm)
        omega
    · right; rw [rE_s, h, ← rE_s]; exact h
/-- after n - 1 steps a ball is whole -/
theorem rE_full (N : rNet V n) (hg : g < 4096) (hgn : ∀ k, g.testBit k = true → k < n) {y : Nat} (hy : g.testBit y = true) {j : Nat} (hj : n - 1 ≤ j) : rE V n g j = rE V n g (n - 1) := by
  have hn : y < n := hgn y hy
  have hs : rE V n g (n - 1 + 1) = rE V n g (n - 1) := by
    rcases rE_grow N hg hy (n - 1) with h | h
    · by_cases e : rE V n g (n - 1 + 1) = rE V n g (n - 1)
      · exact e
      · have h1 := zpop_lt (rE_lt (i := n - 1) N.1 N.2.1 hg) (rE_lt (i := n - 1 + 1) N.1 N.2.1 hg) (fun k hk => rE_bit.mpr (Or.inl hk)) (fun q => e q.symm)
        have h2 := zpop_leN N.1 (rE_in N hgn (n - 1 + 1))
        omega
    · exact h
  have := rE_stable hs (j - (n - 1))
  rw [← this]; congr 1; omega
theorem zOne_lt {y : Nat} (h : y < 12) : 1 * 2 ^ y < 4096 := zBit_lt h
theorem zOne_in {y k : Nat} (h : (1 * 2 ^ y).testBit k = true) : k = y := by rw [zBitT] at h; exact (of_decide_eq_true h).symm
theorem zOne_bit {y : Nat} : (1 * 2 ^ y).testBit y = true := by rw [zBitT]; exact decide_eq_true rfl
theorem rClo_closed (N : rNet V n) (hg : g < 4096) (hgn : ∀ k, g.testBit k = true → k < n) {y : Nat} (hy : g.testBit y = true) {e k : Nat} (he : e < n) (h1 : (rClo V n g).testBit e = true) (h2 : (V (29 + e)).testBit k = true) : (rClo V n g).testBit k = true := by
  have hn := N.1
  unfold rClo at h1 ⊢
  have e1 : rE V n g 12 = rE V n g (12 + 1) := by rw [rE_full N hg hgn hy (j := 12) (by omega), rE_full N hg hgn hy (j := 12 + 1) (by omega)]
  rw [e1]
  exact rE_bit.mpr (Or.inr ⟨e, he, h1, h2⟩)
theorem rE_least {P : Nat → Prop} (hg : ∀ k, g.testBit k = true → P k) (hc : ∀ e k, e < n → P e → (V (29 + e)).testBit k = true → P k) : ∀ (i k : Nat), (rE V n g i).testBit k = true → P k := by
  intro i
  induction i with
  | zero => exact hg
  | succ i ih =>
    intro k h
    rcases rE_bit.mp h with h | ⟨e, he, h1, h2⟩
    · exact ih k h
    · exact hc e k he (ih e h1) h2
/-- the component of a listener -/
def rC (V : Nat → Nat) (n e k : Nat) : Prop := (rClo V n (1 * 2 ^ e)).testBit k = true
theorem rC_self {e : Nat} : rC V n e e := by
  have h : (rE V n (1 * 2 ^ e) (0 + 12)).testBit e = true := rE_up (i := 0) (j := 12) zOne_bit
  exact h
theorem rC_step (N : rNet V n) {e k j : Nat} (he : e < n) (hk : k < n) (h : rC V n e k) (hl : (V (29 + k)).testBit j = true) : rC V n e j :=
  rClo_closed N (zOne_lt (by have := N.1; omega)) (fun q hq => by rw [zOne_in hq]; exact he) zOne_bit hk h hl
theorem rC_in (N : rNet V n) {e k : Nat} (he : e < n) (h : rC V n e k) : k < n := rE_in N (fun q hq => by rw [zOne_in hq]; exact he) 12 k h
theorem rC_trans (N : rNet V n) {e k j : Nat} (he : e < n) (h1 : rC V n e k) (h2 : rC V n k j) : rC V n e j :=
  rE_least (P := fun q => rC V n e q) (g := 1 * 2 ^ k) (fun q hq => by rw [zOne_in hq]; exact h1) (fun a b ha hP hl => rC_step N he ha hP hl) 12 j h2
theorem rC_symm (N : rNet V n) {e k : Nat} (he : e < n) (h : rC V n e k) : rC V n k e := by
  refine rE_least (P := fun q => rC V n q e) (g := 1 * 2 ^ e) (fun q hq => by rw [zOne_in hq]; exact rC_self) (fun a b ha hP hl => ?_) 12 k h
  have hg := N.2.2 a b (by have := N.1; omega) hl
  have h1 : rC V n b a := rC_step N hg.2.1 hg.2.1 rC_self hg.2.2.2
  exact rC_trans N hg.2.1 h1 hP
end BL
