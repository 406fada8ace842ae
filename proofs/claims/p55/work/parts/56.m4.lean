/-! what is reached: rows as functions -/
def rStep (V : Nat → Nat) (n w g : Nat) : Nat := zIt (fun e s => if w.testBit e = true then s ||| V (29 + e) else s) n g
def rE (V : Nat → Nat) (n g i : Nat) : Nat := zIt (fun _ s => rStep V n s s) i g
def rClo (V : Nat → Nat) (n g : Nat) : Nat := rE V n g 12
theorem zIt_mono {n : Nat} {f : Nat → Nat → Nat} (hf : ∀ i s k, s.testBit k = true → (f i s).testBit k = true) (g k : Nat) (h : g.testBit k = true) : (zIt f n g).testBit k = true :=
  zIt_inv (fun s => s.testBit k = true) h (fun i s _ hs => hf i s k hs)
theorem rStep_mono {V : Nat → Nat} {n w g k : Nat} (h : g.testBit k = true) : (rStep V n w g).testBit k = true := by
  refine zIt_mono (fun i s k hs => ?_) g k h
  split
  · rw [Nat.testBit_or, hs]; rfl
  · exact hs
theorem rStep_lt {V : Nat → Nat} {n w g : Nat} (hn : n ≤ 12) (hV : ∀ e, e < 12 → V (29 + e) < 4096) (hg : g < 4096) : rStep V n w g < 4096 := by
  refine zIt_inv (fun s => s < 4096) hg (fun i s hi hs => ?_)
  try dsimp only
  split
  · exact zOr_lt hs (hV i (by omega))
  · exact hs
theorem rE_lt {V : Nat → Nat} {n g i : Nat} (hn : n ≤ 12) (hV : ∀ e, e < 12 → V (29 + e) < 4096) (hg : g < 4096) : rE V n g i < 4096 := zIt_inv (fun s => s < 4096) hg (fun _ _ _ hs => rStep_lt hn hV hs)
theorem zcnt_lt {n : Nat} {p q : Nat → Bool} (h : ∀ i, p i = true → q i = true) {k : Nat} (hk : k < n) (hp : p k = false) (hq : q k = true) : zcnt n p < zcnt n q := by
  induction n with
  | zero => omega
  | succ n ih =>
    have e1 : zcnt (n + 1) p = zcnt n p + (p n).toNat := rfl
    have e2 : zcnt (n + 1) q = zcnt n q + (q n).toNat := rfl
    rw [e1, e2]
    by_cases hkn : k = n
    · subst hkn
      rw [hp, hq]
      have := zcnt_mono (n := k) h
      simp; omega
    · have h1 := ih (by omega)
      have h2 : (p n).toNat ≤ (q n).toNat := by
        cases e : p n with
        | false => simp
        | true => rw [h n e]; simp
      omega
theorem zpop_lt {a b : Nat} (ha : a < 4096) (hb : b < 4096) (h : ∀ k, a.testBit k = true → b.testBit k = true) (hne : ¬ a = b) : zpop a < zpop b := by
  have : ∃ k, a.testBit k ≠ b.testBit k := by
    apply Classical.byContradiction
    intro hc
    exact hne (Nat.eq_of_testBit_eq (fun k => Classical.byContradiction (fun q => hc ⟨k, q⟩)))
  obtain ⟨k, hk⟩ := this
  have hk2 : a.testBit k = false ∧ b.testBit k = true := by
    cases ea : a.testBit k with
    | true => exact absurd ((h k ea).symm ▸ ea) (by rw [ea, h k ea] at hk; exact absurd rfl hk)
    | false =>
      refine ⟨rfl, ?_⟩
      cases eb : b.testBit k with
      | true => rfl
      | false => rw [ea, eb] at hk; exact absurd rfl hk
  have hk12 : k < 12 := by
    apply Classical.byContradiction
    intro hc
    have h1 : b < 2 ^ k := Nat.lt_of_lt_of_le hb (Nat.pow_le_pow_right (n := 2) (by decide) (show 12 ≤ k by omega))
    rw [Nat.testBit_lt_two_pow h1] at hk2
    exact absurd hk2.2 (by decide)
  exact zcnt_lt h hk12 hk2.1 hk2.2
theorem rE_s {V : Nat → Nat} {n g i : Nat} : rE V n g (i + 1) = rStep V n (rE V n g i) (rE V n g i) := rfl
theorem rE_stable {V : Nat → Nat} {n g i : Nat} (h : rE V n g (i + 1) = rE V n g i) : ∀ k, rE V n g (i + k) = rE V n g i := by
  intro k
  induction k with
  | zero => rfl
  | succ k ih => rw [← Nat.add_assoc, rE_s, ih, ← rE_s, h]
