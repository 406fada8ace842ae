/-! means, shares and consistency, tied -/
section CO
variable {A B : zS} {n t : Nat}
theorem tie_dsum (T : zTie A 25 (B 13)) (G : zGd A 25) (hn : A 26 0 = n) : zDsum A n = mDsum (B 13) n := by
  have hz : n ≤ 12 := hn ▸ G.1
  have : ∀ m, m ≤ n → zIt (fun e s => s + A 31 e) m 0 = zIt (fun e s => s + B 13 (17 + e)) m 0 := by
    intro m
    induction m with
    | zero => intro _; rfl
    | succ m ih => intro hm; rw [zIt, zIt, ih (by omega), (T.e (e := m) (by omega)).2.1]
  exact this n (Nat.le_refl _)
theorem zGsp_bit {k : Nat} : ∀ t, (zGsp A t).testBit k = true ↔ ∃ r, r < t ∧ (A (33 + 2 * r) 3).testBit k = true := by
  intro t
  unfold zGsp
  induction t with
  | zero =>
    constructor
    · intro h
      rw [show zIt (fun r m => m ||| A (33 + 2 * r) 3) 0 0 = 0 from rfl, Nat.zero_testBit] at h; cases h
    · rintro ⟨r, hr, -⟩; omega
  | succ t ih =>
    rw [zIt, Nat.testBit_or, Bool.or_eq_true, ih]
    constructor
    · rintro (⟨r, h1, h2⟩ | h)
      · exact ⟨r, by omega, h2⟩
      · exact ⟨t, by omega, h⟩
    · rintro ⟨r, h1, h2⟩
      by_cases e : r = t
      · subst e; exact Or.inr h2
      · exact Or.inl ⟨r, by omega, h2⟩
theorem zGos_pos {e : Nat} : ∀ t, 0 < zGos A t e ↔ ∃ r, r < t ∧ (A (33 + 2 * r) 3).testBit e = true := by
  intro t
  unfold zGos
  induction t with
  | zero =>
    constructor
    · intro h; exact absurd h (Nat.lt_irrefl 0)
    · rintro ⟨r, hr, -⟩; omega
  | succ t ih =>
    rw [zcnt_s]
    cases hb : (A (33 + 2 * t) 3).testBit e with
    | true => exact ⟨fun _ => ⟨t, by omega, hb⟩, fun _ => by show 0 < _ + 1; omega⟩
    | false =>
      show 0 < zcnt t _ + 0 ↔ _
      rw [Nat.add_zero, ih]
      constructor
      · rintro ⟨r, h1, h2⟩; exact ⟨r, by omega, h2⟩
      · rintro ⟨r, h1, h2⟩
        have : r ≠ t := fun q => by rw [q, hb] at h2; cases h2
        exact ⟨r, by omega, h2⟩
theorem tie_gsp (T : zTie A 25 (B 13)) (G : zGd A 25) (hn : A 26 0 = n) (ht : A 25 4 = t) : zpop (zGsp A t) = mGsp (B 13) n t := by
  have hz : n ≤ 12 := hn ▸ G.1
  have e : zpop (zGsp A t) = zcnt n (fun e => (zGsp A t).testBit e) := by
    unfold zpop
    refine zcnt_ext 12 hz (fun i hi => ?_)
    cases hb : (zGsp A t).testBit i with
    | false => rfl
    | true =>
      obtain ⟨r, h1, h2⟩ := (zGsp_bit t).mp hb
      have := (G.rt (r := r) (by omega)).2 i h2
      omega
  rw [e]
  unfold mGsp
  refine zcnt_congr (fun i hi => ?_)
  rw [← tie_gos T G ht]
  exact Bool.eq_iff_iff.mpr ((zGsp_bit t).trans ((zGos_pos t).symm.trans decide_eq_true_iff.symm))
theorem zTie.net {Q : zS} (T : zTie A 25 (B 13)) (h : ∀ a b, a ≠ 28 → a ≠ 29 → Q a b = A a b) : zTie Q 25 (B 13) :=
  T.scene (h _ _ (by decide) (by decide)) (fun k _ _ => h _ _ (by decide) (by decide)) (fun e _ => ⟨h _ _ (by decide) (by decide), h _ _ (by decide) (by decide), h _ _ (by decide) (by decide)⟩) (fun r hr => ⟨fun k _ => h _ _ (by omega) (by omega), fun k _ => h _ _ (by omega) (by omega)⟩)
theorem zGd.net {Q : zS} (G : zGd A 25) (h : ∀ a b, a ≠ 28 → a ≠ 29 → Q a b = A a b) : zGd Q 25 :=
  G.scene (fun k _ => h _ _ (by decide) (by decide)) (fun k _ _ => h _ _ (by decide) (by decide)) (fun e _ => ⟨h _ _ (by decide) (by decide), h _ _ (by decide) (by decide), h _ _ (by decide) (by decide)⟩) (fun r hr k _ => h _ _ (by omega) (by omega))
theorem tie_agree (T : zTie A 25 (B 13)) (G : zGd A 25) (hn : A 26 0 = n) : zAgree (zUnion A n).2 n t := by
  intro r hr e he q hq
  have hqA : ∀ a b, a ≠ 28 → a ≠ 29 → q a b = A a b := fun a b h1 h2 => (hq a b h1 h2).trans (zUnion_off h1)
  have Tq := T.net hqA
  have Gq := G.net hqA
  have nq : q 26 0 = n := (hqA _ _ (by decide) (by decide)).trans hn
  rw [tie_bfs Tq Gq nq he, tie_rlx Tq Gq nq he]
theorem tie_hsum (G : zGd A 25) (hn : A 26 0 = n) : zHsum A n = n := by
  have hz : n ≤ 12 := hn ▸ G.1
  have hv : ∀ e, e < 12 → A 30 e < 4 := fun e he => (G.2.2.1 e he).2.1
  have e1 : ∀ h, zpop (zMem A n h) = zcnt n (fun e => decide (A 30 e = h)) := fun h => by unfold zMem; exact zpop_mask hz
  have e2 : zHsum A n = 0 + zpop (zMem A n 0) + zpop (zMem A n 1) + zpop (zMem A n 2) + zpop (zMem A n 3) := rfl
  rw [e2, e1, e1, e1, e1]
  have : ∀ m, m ≤ n → 0 + zcnt m (fun e => decide (A 30 e = 0)) + zcnt m (fun e => decide (A 30 e = 1)) + zcnt m (fun e => decide (A 30 e = 2)) + zcnt m (fun e => decide (A 30 e = 3)) = m := by
    intro m
    induction m with
    | zero => intro _; rfl
    | succ m ih =>
      intro hm
      have h := ih (by omega)
      rw [zcnt_s, zcnt_s, zcnt_s, zcnt_s]
      have := hv m (by omega)
      rcases (show A 30 m = 0 ∨ A 30 m = 1 ∨ A 30 m = 2 ∨ A 30 m = 3 by omega) with e | e | e | e <;> rw [e] <;> simp <;> omega
  exact this n (Nat.le_refl _)
end CO
