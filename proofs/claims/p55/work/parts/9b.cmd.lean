/-! the word read, the furthest form, the command -/
section WD
variable {sg : Nat → Nat} {p : Nat}
def wL (w : Nat) : Nat := wA (w + 1) - wA w
theorem wL0 : ∀ w : Fin 9, 4 ≤ wL w.val ∧ wL w.val ≤ 7 ∧ wA w.val + wL w.val = wA (w.val + 1) ∧ ∀ v : Fin 9, w.val ≠ v.val → ¬ (wW (wA w.val) = wW (wA v.val) ∧ wW (wA w.val + 1) = wW (wA v.val + 1)) := by decide +kernel
theorem wL_is {w : Nat} (h : w < 9) : 4 ≤ wL w ∧ wL w ≤ 7 ∧ wA w + wL w = wA (w + 1) := ⟨(wL0 ⟨w, h⟩).1, (wL0 ⟨w, h⟩).2.1, (wL0 ⟨w, h⟩).2.2.1⟩
theorem wM_two {w : Nat} (h : wM sg p w 2 = true) : wW (wA w) = sg p ∧ wW (wA w + 1) = sg (p + 1) := by
  have h : (((true && (decide (wA w + 0 < wA (w + 1)) && decide (wW (wA w + 0) = sg (p + 0)))) && (decide (wA w + 1 < wA (w + 1)) && decide (wW (wA w + 1) = sg (p + 1)))) : Bool) = true := h
  simp only [Bool.true_and, Bool.and_eq_true, decide_eq_true_eq, Nat.add_zero] at h
  exact ⟨h.1.2, h.2.2⟩
/-- two letters tell the word -/
theorem wM_one {w v : Nat} (hw : w < 9) (hv : v < 9) (h1 : wM sg p w 2 = true) (h2 : wM sg p v 2 = true) : w = v := by
  apply Classical.byContradiction
  intro hne
  have a := wM_two h1
  have b := wM_two h2
  exact (wL0 ⟨w, hw⟩).2.2.2 ⟨v, hv⟩ hne ⟨a.1.trans b.1.symm, a.2.trans b.2.symm⟩
theorem wM_len {w n : Nat} (hw : w < 9) (h : wM sg p w n = true) : n ≤ wL w := by
  cases n with
  | zero => exact Nat.zero_le _
  | succ n =>
    rw [wM, Bool.and_eq_true, Bool.and_eq_true] at h
    have := of_decide_eq_true h.2.1
    have := (wL_is hw).2.2
    omega
theorem wAny_ne {w n : Nat} (hw : w < 9) (h : wM sg p w n = true) : ¬ wAny sg p n = 0 := fun h0 => by
  have := wAny0 9 h0 w hw
  rw [h] at this; cases this
theorem wAny_z {n : Nat} (h : ∀ w, w < 9 → wM sg p w n = false) : wAny sg p n = 0 :=
  zIt_inv (fun m => m = 0) rfl (fun w m hw hm => by
    try dsimp only
    rw [h w hw, hm]; rfl)
theorem wIs_none {n : Nat} (h : ∀ w, w < 9 → ¬ (wM sg p w n = true ∧ wA w + n = wA (w + 1))) : wIs sg p n = 4294967295 :=
  zIt_inv (fun s => s = 4294967295) rfl (fun w s hw hs => by
    try dsimp only
    rw [if_neg (h w hw)]; exact hs)
theorem wIs_one {n w : Nat} (hw : w < 9) (h : wM sg p w n = true ∧ wA w + n = wA (w + 1)) (ho : ∀ v, v < 9 → v ≠ w → ¬ (wM sg p v n = true ∧ wA v + n = wA (v + 1))) : wIs sg p n = w := by
  have hall : ∀ i, i ≤ 9 → zIt (fun w s => if wM sg p w n = true ∧ wA w + n = wA (w + 1) then w else s) i 4294967295 = if w < i then w else 4294967295 := by
    intro i
    induction i with
    | zero => intro _; rfl
    | succ i ih =>
      intro hi
      rw [zIt, ih (by omega)]
      by_cases e : i = w
      · subst e; rw [if_pos h, if_pos (by omega)]
      · rw [if_neg (ho i (by omega) e)]
        by_cases h2 : w < i
        · rw [if_pos h2, if_pos (by omega)]
        · rw [if_neg h2, if_neg (by omega)]
  unfold wIs
  rw [hall 9 (Nat.le_refl _), if_pos hw]
theorem mWd_full {w : Nat} (hw : w < 9) (h : wM sg p w (wL w) = true) : ∀ k n, n < wL w → wL w ≤ n + k → mWd sg p k n = (w, p + wL w, 0, wL w) := by
  have hl := wL_is hw
  have h2 : wM sg p w 2 = true := wM_low _ _ (by omega) h
  intro k
  induction k with
  | zero => intro n h1 h3; omega
  | succ k ih =>
    intro n h1 h3
    have hn : wM sg p w (n + 1) = true := wM_low _ _ (by omega) h
    rw [mWd, if_neg (wAny_ne hw hn)]
    have ho : ∀ v, v < 9 → v ≠ w → ¬ (wM sg p v (n + 1) = true ∧ wA v + (n + 1) = wA (v + 1)) := fun v hv hne hc => by
      have hlv := wL_is hv
      exact hne (wM_one hv hw (wM_low _ _ (by omega) hc.1) h2)
    by_cases e : n + 1 = wL w
    · rw [wIs_one hw ⟨hn, by omega⟩ ho, if_pos (by omega)]
      rw [show p + n + 1 = p + wL w from by omega, e]
    · rw [wIs_none (fun v hv hc => by
        by_cases hvw : v = w
        · subst hvw; omega
        · exact ho v hv hvw hc), if_neg (by decide)]
      exact ih (n + 1) (by omega) (by omega)
theorem mWd_none {N w0 : Nat} (hf : ∀ w, w < 9 → wM sg p w (wL w) = false) (hw0 : w0 < 9) (h0 : wM sg p w0 N = true) (hN : ∀ w, w < 9 → wM sg p w (N + 1) = false) : ∀ k n, n ≤ N → N < n + k → mWd sg p k n = (4294967295, p + N, 1, N + 1) := by
  intro k
  induction k with
  | zero => intro n h1 h3; omega
  | succ k ih =>
    intro n h1 h3
    by_cases e : n = N
    · subst e
      rw [mWd, if_pos (wAny_z hN)]
    · rw [mWd, if_neg (wAny_ne hw0 (wM_low _ _ (show n + 1 ≤ N by omega) h0)), wIs_none (fun v hv hc => by
        have hlv := wL_is hv
        have : n + 1 = wL v := by omega
        rw [this, hf v hv] at hc
        exact absurd hc.1 Bool.false_ne_true), if_neg (by decide)]
      exact ih (n + 1) (by omega) (by omega)
end WD
/-- the first of those that reach furthest -/
theorem zMax_is {f : Nat → Nat} : ∀ i, (i = 0 ∧ zIt (fun k (w : Nat × Nat) => if f k < w.2 then w else (k, f k + 1)) i (0, 0) = (0, 0)) ∨ ((zIt (fun k (w : Nat × Nat) => if f k < w.2 then w else (k, f k + 1)) i (0, 0)).1 < i ∧ (zIt (fun k (w : Nat × Nat) => if f k < w.2 then w else (k, f k + 1)) i (0, 0)).2 = f (zIt (fun k (w : Nat × Nat) => if f k < w.2 then w else (k, f k + 1)) i (0, 0)).1 + 1 ∧ (∀ k, k < i → f k ≤ f (zIt (fun k (w : Nat × Nat) => if f k < w.2 then w else (k, f k + 1)) i (0, 0)).1) ∧ ∀ k, k < (zIt (fun k (w : Nat × Nat) => if f k < w.2 then w else (k, f k + 1)) i (0, 0)).1 → f k < f (zIt (fun k (w : Nat × Nat) => if f k < w.2 then w else (k, f k + 1)) i (0, 0)).1) := by
  intro i
  induction i with
  | zero => exact Or.inl ⟨rfl, rfl⟩
  | succ i ih =>
    right
    rw [zIt]
    obtain ⟨w, hw⟩ : ∃ w, zIt (fun k (w : Nat × Nat) => if f k < w.2 then w else (k, f k + 1)) i (0, 0) = w := ⟨_, rfl⟩
    rw [hw] at ih ⊢
    have hlow : w.2 ≤ f i ∨ f i < w.2 := by omega
    rcases ih with ⟨h0, h1⟩ | ⟨h1, h2, h3, h4⟩
    · have hn : ¬ f i < w.2 := by rw [h1]; exact Nat.not_lt_zero _
      rw [if_neg hn]
      refine ⟨Nat.lt_succ_self i, rfl, fun k hk => ?_, fun k hk => ?_⟩
      · have : k = i := by omega
        rw [this]; exact Nat.le_refl _
      · have hk : k < i := hk
        omega
    · by_cases h : f i < w.2
      · rw [if_pos h]
        refine ⟨by omega, h2, fun k hk => ?_, h4⟩
        by_cases e : k = i
        · rw [e]; omega
        · exact h3 k (by omega)
      · rw [if_neg h]
        refine ⟨Nat.lt_succ_self i, rfl, fun k hk => ?_, fun k hk => ?_⟩
        · by_cases e : k = i
          · rw [e]; exact Nat.le_refl _
          · have := h3 k (by omega)
            show f k ≤ f i
            omega
        · have hk : k < i := hk
          have := h3 k hk
          show f k < f i
          omega
section FU
variable {A : zS} {p : Nat}
theorem zFur_is : (zFur A p).1 < 10 ∧ (∀ k, k < 10 → (zMatch A k p).2.1 ≤ (zMatch A (zFur A p).1 p).2.1) ∧ ∀ k, k < (zFur A p).1 → (zMatch A k p).2.1 < (zMatch A (zFur A p).1 p).2.1 := by
  obtain ⟨f, hf⟩ : ∃ f : Nat → Nat, f = fun k => (zMatch A k p).2.1 := ⟨_, rfl⟩
  have e : zFur A p = zIt (fun k (w : Nat × Nat) => if f k < w.2 then w else (k, f k + 1)) 10 (0, 0) := by rw [hf]; rfl
  have ef : ∀ k, (zMatch A k p).2.1 = f k := fun k => by rw [hf]
  have h := (zMax_is (f := f) 10).resolve_left (fun q => absurd q.1 (by decide))
  rw [← e] at h
  refine ⟨h.1, fun k hk => ?_, fun k hk => ?_⟩
  · rw [ef, ef]; exact h.2.2.1 k hk
  · rw [ef, ef]; exact h.2.2.2 k hk
end FU
