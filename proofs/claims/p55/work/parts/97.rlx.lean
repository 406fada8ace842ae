/-! distances by relaxing, tied -/
section RX
variable {A B : zS} {n t : Nat} {V : Nat → Nat}
/-- a ball seen from its first step -/
theorem rE_first (N : rNet V n) : ∀ (m x k : Nat), x < n → ((rE V n (1 * 2 ^ x) (m + 1)).testBit k = true ↔ k = x ∨ ∃ y, (V (29 + x)).testBit y = true ∧ (rE V n (1 * 2 ^ y) m).testBit k = true) := by
  intro m
  induction m with
  | zero =>
    intro x k hx
    rw [rE_bit]
    constructor
    · rintro (h | ⟨e, h1, h2, h3⟩)
      · exact Or.inl (zOne_in h)
      · have := zOne_in h2
        subst this
        exact Or.inr ⟨k, h3, zOne_bit⟩
    · rintro (h | ⟨y, h1, h2⟩)
      · subst h; exact Or.inl zOne_bit
      · have := zOne_in h2
        subst this
        exact Or.inr ⟨x, hx, zOne_bit, h1⟩
  | succ m ih =>
    intro x k hx
    have hz := N.1
    rw [rE_bit]
    constructor
    · rintro (h | ⟨e, h1, h2, h3⟩)
      · rcases (ih x k hx).mp h with h | ⟨y, h4, h5⟩
        · exact Or.inl h
        · exact Or.inr ⟨y, h4, rE_bit.mpr (Or.inl h5)⟩
      · rcases (ih x e hx).mp h2 with h | ⟨y, h4, h5⟩
        · subst h
          exact Or.inr ⟨k, h3, rE_up (i := 0) (j := m + 1) zOne_bit |> fun q => by rwa [Nat.zero_add] at q⟩
        · exact Or.inr ⟨y, h4, rE_bit.mpr (Or.inr ⟨e, h1, h5, h3⟩)⟩
    · rintro (h | ⟨y, h4, h5⟩)
      · subst h
        have q := rE_up (V := V) (n := n) (g := 1 * 2 ^ k) (i := 0) (j := m + 1) (k := k) zOne_bit
        rw [Nat.zero_add] at q
        exact Or.inl q
      · rcases rE_bit.mp h5 with h | ⟨e, h1, h2, h3⟩
        · exact Or.inl ((ih x k hx).mpr (Or.inr ⟨y, h4, h⟩))
        · exact Or.inr ⟨e, h1, (ih x e hx).mpr (Or.inr ⟨y, h4, h2⟩), h3⟩
/-- a set is met within so many steps -/
def rMet (V : Nat → Nat) (n g x m : Nat) : Prop := ¬ rE V n (1 * 2 ^ x) m &&& g = 0
theorem rMet_iff {g x m : Nat} : rMet V n g x m ↔ ∃ k, (rE V n (1 * 2 ^ x) m).testBit k = true ∧ g.testBit k = true := by
  unfold rMet
  rw [zAnd0]
  constructor
  · intro h
    apply Classical.byContradiction
    intro hn
    exact h (fun k hk => hn ⟨k, hk⟩)
  · rintro ⟨k, hk⟩ h
    exact h k hk
theorem rMet_0 {g x : Nat} : rMet V n g x 0 ↔ g.testBit x = true := by
  rw [rMet_iff]
  constructor
  · rintro ⟨k, h1, h2⟩
    have := zOne_in h1
    subst this; exact h2
  · intro h; exact ⟨x, zOne_bit, h⟩
theorem rMet_up {g x m : Nat} (h : rMet V n g x m) : rMet V n g x (m + 1) := by
  rw [rMet_iff] at h ⊢
  obtain ⟨k, h1, h2⟩ := h
  exact ⟨k, rE_bit.mpr (Or.inl h1), h2⟩
theorem rMet_le {g x m m' : Nat} (h : rMet V n g x m) (hm : m ≤ m') : rMet V n g x m' := by
  have : ∀ d, rMet V n g x (m + d) := by
    intro d
    induction d with
    | zero => exact h
    | succ d ih => exact rMet_up ih
  have q := this (m' - m)
  rwa [show m + (m' - m) = m' by omega] at q
theorem rMet_s (N : rNet V n) {g x m : Nat} (hx : x < n) : rMet V n g x (m + 1) ↔ g.testBit x = true ∨ ∃ y, (V (29 + x)).testBit y = true ∧ rMet V n g y m := by
  rw [rMet_iff]
  constructor
  · rintro ⟨k, h1, h2⟩
    rcases (rE_first N m x k hx).mp h1 with h | ⟨y, h3, h4⟩
    · subst h; exact Or.inl h2
    · exact Or.inr ⟨y, h3, rMet_iff.mpr ⟨k, h4, h2⟩⟩
  · rintro (h | ⟨y, h3, h4⟩)
    · exact ⟨x, (rE_first N m x x hx).mpr (Or.inl rfl), h⟩
    · obtain ⟨k, h5, h6⟩ := rMet_iff.mp h4
      exact ⟨k, (rE_first N m x k hx).mpr (Or.inr ⟨y, h3, h5⟩), h6⟩
/-- what relaxing keeps: a value below 1000 is a number of steps that do -/
def rSnd (V : Nat → Nat) (n g : Nat) (q : zS) : Prop := (∀ e, e < 12 → q 27 e = V (29 + e)) ∧ (∀ k, k < n → q 29 k ≤ 1000) ∧ ∀ k, k < n → q 29 k < 1000 → rMet V n g k (q 29 k)
/-- .. and after so many rounds -/
def rDone (V : Nat → Nat) (n g r : Nat) (q : zS) : Prop := ∀ k m, k < n → m ≤ r → rMet V n g k m → q 29 k ≤ m
theorem zRlF_27 {x y e : Nat} {q : zS} : zRlF x y q 27 e = q 27 e := zRlF_off (by decide)
theorem zRlF_low {x y k : Nat} {q : zS} : zRlF x y q 29 k ≤ q 29 k := by
  unfold zRlF
  split
  · by_cases h : k = x
    · subst h; rw [zU_s]; exact Nat.min_le_left _ _
    · rw [zU_j h]; exact Nat.le_refl _
  · exact Nat.le_refl _
theorem rSnd.step (N : rNet V n) {g x y : Nat} {q : zS} (hx : x < n) (hy : y < n) (h : rSnd V n g q) : rSnd V n g (zRlF x y q) := by
  obtain ⟨h1, h2, h3⟩ := h
  have hz := N.1
  refine ⟨fun e he => zRlF_27.trans (h1 e he), fun k hk => Nat.le_trans zRlF_low (h2 k hk), fun k hk hlt => ?_⟩
  unfold zRlF at hlt ⊢
  by_cases hl : (q 27 x).testBit y = true
  · rw [if_pos hl] at hlt ⊢
    by_cases hkx : k = x
    · subst hkx
      rw [zU_s] at hlt ⊢
      by_cases hm : q 29 k ≤ q 29 y + 1
      · rw [Nat.min_eq_left hm] at hlt ⊢; exact h3 k hk hlt
      · rw [Nat.min_eq_right (by omega)] at hlt ⊢
        rw [h1 k (by omega)] at hl
        exact (rMet_s N hk).mpr (Or.inr ⟨y, hl, h3 y hy (by omega)⟩)
    · rw [zU_j hkx] at hlt ⊢; exact h3 k hk hlt
  · rw [if_neg hl] at hlt ⊢; exact h3 k hk hlt
theorem rSnd.row (N : rNet V n) {g x : Nat} {q : zS} (hx : x < n) (h : rSnd V n g q) : ∀ m, m ≤ n → rSnd V n g (zIt (fun y q => zRlF x y q) m q) := by
  intro m
  induction m with
  | zero => intro _; exact h
  | succ m ih => intro hm; rw [zIt]; exact (ih (by omega)).step N hx (by omega)
theorem rSnd.all (N : rNet V n) {g : Nat} {q : zS} (h : rSnd V n g q) : ∀ m, m ≤ n → rSnd V n g (zIt (fun x q => zIt (fun y q => zRlF x y q) n q) m q) := by
  intro m
  induction m with
  | zero => intro _; exact h
  | succ m ih => intro hm; rw [zIt]; exact (ih (by omega)).row N (by omega) n (Nat.le_refl _)
theorem zRow_low {x k : Nat} {q : zS} : ∀ m, zIt (fun y q => zRlF x y q) m q 29 k ≤ q 29 k := by
  intro m
  induction m with
  | zero => exact Nat.le_refl _
  | succ m ih => rw [zIt]; exact Nat.le_trans zRlF_low ih
theorem zAll_low {k : Nat} {q : zS} : ∀ m, zIt (fun x q => zIt (fun y q => zRlF x y q) n q) m q 29 k ≤ q 29 k := by
  intro m
  induction m with
  | zero => exact Nat.le_refl _
  | succ m ih => rw [zIt]; exact Nat.le_trans (zRow_low n) ih
/-- a row relaxed: at most one more than a neighbour -/
theorem zRow_at {x y : Nat} {q : zS} (hl : (q 27 x).testBit y = true) (hxy : y ≠ x) : ∀ m, y < m → zIt (fun y q => zRlF x y q) m q 29 x ≤ q 29 y + 1 := by
  have h27 : ∀ m e, zIt (fun y q => zRlF x y q) m q 27 e = q 27 e := by
    intro m
    induction m with
    | zero => intro e; rfl
    | succ m ih => intro e; rw [zIt]; exact zRlF_27.trans (ih e)
  intro m
  induction m with
  | zero => intro h; omega
  | succ m ih =>
    intro h
    rw [zIt]
    by_cases hm : y = m
    · subst hm
      have hlow := zRow_low (x := x) (k := y) (q := q) y
      have h27y := h27 y x
      obtain ⟨Q, hQ⟩ : ∃ Q, zIt (fun y q => zRlF x y q) y q = Q := ⟨_, rfl⟩
      rw [hQ] at hlow h27y ⊢
      unfold zRlF
      rw [if_pos (by rw [h27y]; exact hl), zU_s]
      exact Nat.le_trans (Nat.min_le_right _ _) (by omega)
    · exact Nat.le_trans zRlF_low (ih (by omega))
theorem rDone.round (N : rNet V n) {g r : Nat} {q : zS} (hS : rSnd V n g q) (h : rDone V n g r q) : rDone V n g (r + 1) (zRl n q) := by
  intro k m hk hm hmet
  have hz := N.1
  by_cases hmr : m ≤ r
  · exact Nat.le_trans (zAll_low n) (h k m hk hmr hmet)
  · have hm1 : m = r + 1 := by omega
    subst hm1
    rcases (rMet_s N hk).mp hmet with h0 | ⟨y, hl, hy⟩
    · have := h k 0 hk (by omega) (rMet_0.mpr h0)
      have h2 := zAll_low (n := n) (k := k) (q := q) n
      unfold zRl; omega
    · have hg := N.2.2 k y (by omega) hl
      have hyq := h y r hg.2.1 (Nat.le_refl _) hy
      have hall : ∀ m, m ≤ n → k < m → zIt (fun x q => zIt (fun y q => zRlF x y q) n q) m q 29 k ≤ r + 1 := by
        intro m
        induction m with
        | zero => intro _ h0; omega
        | succ m ihm =>
          intro hmn hkm
          rw [zIt]
          by_cases hkm2 : k = m
          · subst hkm2
            have S' := hS.all N k (by omega)
            have e1 := zRow_at (x := k) (y := y) (q := zIt (fun x q => zIt (fun y q => zRlF x y q) n q) k q) (by rw [S'.1 k (by omega)]; exact hl) hg.2.2.1 n hg.2.1
            have e2 := zAll_low (n := n) (k := y) (q := q) k
            omega
          · exact Nat.le_trans (zRow_low n) (ihm (by omega) (by omega))
      unfold zRl
      exact hall n (Nat.le_refl _) hk
theorem tie_rlx (T : zTie A 25 (B 13)) (G : zGd A 25) (hn : A 26 0 = n) {g x : Nat} (hx : x < n) : zRlR A n g x = rDist (B 13) n g 13 0 (1 * 2 ^ x) := by
  have N := tie_net T G hn
  have hz := N.1
  have S0 : rSnd (B 13) n g (zRl0 A n g) := by
    refine ⟨fun e he => (zRl0_off (by decide)).trans (T.e he).2.2.symm, fun k hk => by rw [zRl0_at hk]; split <;> omega, fun k hk hlt => ?_⟩
    rw [zRl0_at hk] at hlt ⊢
    by_cases h : g.testBit k = true
    · rw [if_pos h]; exact rMet_0.mpr h
    · rw [if_neg h] at hlt; omega
  have D0 : rDone (B 13) n g 0 (zRl0 A n g) := by
    intro k m hk hm hmet
    have hm0 : m = 0 := by omega
    subst hm0
    rw [zRl0_at hk, if_pos (rMet_0.mp hmet)]; exact Nat.le_refl _
  have hall : ∀ m, rSnd (B 13) n g (zIt (fun _ q => zRl n q) m (zRl0 A n g)) ∧ rDone (B 13) n g m (zIt (fun _ q => zRl n q) m (zRl0 A n g)) := by
    intro m
    induction m with
    | zero => exact ⟨S0, D0⟩
    | succ m ih => rw [zIt]; exact ⟨ih.1.all N n (Nat.le_refl _), ih.2.round N ih.1⟩
  obtain ⟨⟨-, s2, s3⟩, D⟩ := hall (n - 1)
  have eX : zRlx A n g = zIt (fun _ q => zRl n q) (n - 1) (zRl0 A n g) := rfl
  rw [← eX] at s2 s3 D
  have hw : ∀ j, n - 1 ≤ j → rE (B 13) n (1 * 2 ^ x) j = rE (B 13) n (1 * 2 ^ x) (n - 1) := fun j hj => rE_full N (zOne_lt (by omega)) (fun q hq => by rw [zOne_in hq]; exact hx) zOne_bit hj
  unfold zRlR
  by_cases h : zRlx A n g 29 x = 1000
  · rw [if_pos h]
    refine (rDist_none (fun j => ?_) 13 0).symm
    apply Classical.byContradiction
    intro hne
    have hmet : rMet (B 13) n g x (min j (n - 1)) := by
      by_cases hj : j ≤ n - 1
      · rw [Nat.min_eq_left hj]; exact hne
      · rw [Nat.min_eq_right (by omega)]
        unfold rMet; rw [← hw j (by omega)]; exact hne
    have := D x (min j (n - 1)) hx (Nat.min_le_right _ _) hmet
    have h2 := Nat.min_le_right j (n - 1)
    omega
  · rw [if_neg h]
    have hlt : zRlx A n g 29 x < 1000 := by have := s2 x hx; omega
    have hmet := s3 x hx hlt
    have hle : ∀ m, rMet (B 13) n g x m → zRlx A n g 29 x ≤ m := fun m hm => by
      by_cases hmn : m ≤ n - 1
      · exact D x m hx hmn hm
      · have : rMet (B 13) n g x (n - 1) := by unfold rMet; rw [← hw m (by omega)]; exact hm
        have := D x (n - 1) hx (Nat.le_refl _) this
        omega
    have h12 : zRlx A n g 29 x ≤ n - 1 := by
      by_cases hmn : zRlx A n g 29 x ≤ n - 1
      · exact hmn
      · have : rMet (B 13) n g x (n - 1) := by unfold rMet; rw [← hw (zRlx A n g 29 x) (by omega)]; exact hmet
        exact hle _ this
    exact (rDist_hit hmet (fun j hj => Classical.byContradiction (fun hne => by have := hle j hne; omega)) 13 0 (by omega) (by omega)).symm
end RX
