/-! a script read: all its commands -/
section RD3
variable {A Q : zS} {P K : Nat → Nat} {M : Nat → Bool × Nat × Nat × Nat × Nat}
/-- what is kept of the commands before an index -/
def zKp (K : Nat → Nat) (M : Nat → Bool × Nat × Nat × Nat × Nat) (Q : zS) (c : Nat) : Prop := Q 5 5 = c ∧ ∀ j, j < c → Q 7 j = K j ∧ Q 8 j = (if K j = 8 then 1 else (M j).2.2.2.1) ∧ Q 9 j = (M j).2.2.2.2
theorem zRead_is (H : zSq A P K M) (h60 : A 5 1 ≤ 60) : ∀ (k i : Nat) (Q : zS), Q 5 1 = A 5 1 → (∀ b, Q 6 b = A 6 b) → i + k = 60 → P i ≤ A 5 1 → 5 * i ≤ P i → zKp K M Q i →
    (∃ c, i < c ∧ (∀ j, i ≤ j → j < c → (M j).1 = true) ∧ (∀ j, i ≤ j → j + 1 < c → (M j).2.1 < A 5 1 ∧ zSg A (M j).2.1 = 59) ∧ (M (c - 1)).2.1 = A 5 1 ∧ (zRead k (P i) Q).1 = 4294967295 ∧ zKp K M (zRead k (P i) Q).2 c) ∨
    (∃ c, i ≤ c ∧ (∀ j, i ≤ j → j < c → (M j).1 = true ∧ (M j).2.1 < A 5 1 ∧ zSg A (M j).2.1 = 59) ∧ ((M c).1 = false ∨ ((M c).1 = true ∧ (M c).2.1 < A 5 1 ∧ ¬ zSg A (M c).2.1 = 59)) ∧ (zRead k (P i) Q).1 = (M c).2.1) := by
  intro k
  induction k with
  | zero => intro i Q _ _ hk hp h5 _; omega
  | succ k ih =>
    intro i Q h1 h6 hk hp h5 KP
    obtain ⟨K1, K2⟩ := id KP
    have hfur : (zFur Q (P i)).1 = K i := by rw [zFur_same h1 h6, (H.2 i).1]
    have hmat : zMatch Q (K i) (P i) = M i := by rw [zMatch_same h1 h6, (H.2 i).2.1]
    obtain ⟨⟨ok, rr, mm, ff, ss⟩, hM⟩ : ∃ T, M i = T := ⟨_, rfl⟩
    have hle := H.le hp
    have h4 := H.four (i := i)
    rw [zRead_s hfur (hmat.trans hM)]
    have hs2 : P (i + 1) = rr + 1 := by rw [(H.2 i).2.2, hM]
    have e1 : (M i).1 = ok := by rw [hM]
    have e2 : (M i).2.1 = rr := by rw [hM]
    have e4 : (M i).2.2.2.1 = ff := by rw [hM]
    have e5 : (M i).2.2.2.2 = ss := by rw [hM]
    rw [e2] at hle
    rw [e1, e2] at h4
    cases ok with
    | false =>
      rw [if_pos rfl]
      exact Or.inr ⟨i, Nat.le_refl _, fun j h2 h3 => by omega, Or.inl e1, e2.symm⟩
    | true =>
      have h4 := h4 rfl
      rw [if_neg (by decide), h1]
      have hK : zKp K M (zScr (zKc Q (K i) ff ss) rr 1 mm ff ss) (i + 1) := by
        refine ⟨by rw [zScr_at (Or.inr (by decide)), zKc_n, K1], fun j hj => ?_⟩
        rw [zScr_at (Or.inl (by decide)), zScr_at (Or.inl (by decide)), zScr_at (Or.inl (by decide)), zKc_7, zKc_8, zKc_9, K1]
        by_cases e : j = i
        · subst e; rw [if_pos rfl, if_pos rfl, if_pos rfl, e4, e5]; exact ⟨rfl, rfl, rfl⟩
        · rw [if_neg e, if_neg e, if_neg e]; exact K2 j (by omega)
      by_cases hend : rr = A 5 1
      · rw [if_pos hend]
        left
        refine ⟨i + 1, by omega, fun j h2 h3 => ?_, fun j h2 h3 => by omega, ?_, rfl, hK⟩
        · rw [show j = i by omega]; exact e1
        · rw [show i + 1 - 1 = i by omega, e2]; exact hend
      · rw [if_neg hend, h6]
        have hsg : zSg A rr = A 6 rr := by unfold zSg; rw [if_pos (by omega)]
        by_cases h59 : A 6 rr = 59
        · rw [if_pos h59, ← hs2]
          have hQ1 : (zScr (zKc Q (K i) ff ss) rr 1 mm ff ss) 5 1 = A 5 1 := by rw [zScr_at (Or.inr (by decide)), zKc_o (by decide) (by decide) (by decide) (Or.inr (by decide))]; exact h1
          have hQ6 : ∀ b, (zScr (zKc Q (K i) ff ss) rr 1 mm ff ss) 6 b = A 6 b := fun b => by rw [zScr_at (Or.inl (by decide)), zKc_o (by decide) (by decide) (by decide) (Or.inl (by decide))]; exact h6 b
          have ok59 : (M i).1 = true ∧ (M i).2.1 < A 5 1 ∧ zSg A (M i).2.1 = 59 := ⟨e1, by rw [e2]; omega, by rw [e2, hsg]; exact h59⟩
          rcases ih (i + 1) _ hQ1 hQ6 (by omega) (by omega) (by omega) hK with ⟨c, c1, c2, c3, c4, c5, c6⟩ | ⟨c, c1, c2, c3, c4⟩
          · left
            refine ⟨c, by omega, fun j h2 h3 => ?_, fun j h2 h3 => ?_, c4, c5, c6⟩
            · by_cases e : j = i
              · rw [e]; exact e1
              · exact c2 j (by omega) h3
            · by_cases e : j = i
              · rw [e]; exact ok59.2
              · exact c3 j (by omega) h3
          · right
            refine ⟨c, by omega, fun j h2 h3 => ?_, c3, c4⟩
            by_cases e : j = i
            · rw [e]; exact ok59
            · exact c2 j (by omega) h3
        · rw [if_neg h59]
          right
          exact ⟨i, Nat.le_refl _, fun j h2 h3 => by omega, Or.inr ⟨e1, by rw [e2]; omega, by rw [e2, hsg]; exact h59⟩, e2.symm⟩
end RD3
