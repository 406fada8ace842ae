/-! the model's words -/
def wA (w : Nat) : Nat := [0, 4, 9, 13, 19, 25, 30, 37, 42, 47].getD w 0
def wW (k : Nat) : Nat := [101, 97, 114, 32, 108, 105, 110, 107, 32, 99, 117, 116, 32, 115, 116, 97, 114, 116, 32, 99, 104, 101, 99, 107, 32, 100, 101, 110, 121, 32, 97, 110, 115, 119, 101, 114, 32, 109, 111, 118, 101, 32, 114, 111, 117, 110, 100].getD k 0
def mWds (S : zS) : Prop := (∀ k, k < 47 → S 21 k = wW k) ∧ (∀ k, k < 10 → S 22 k = wA k)
theorem wA_le0 : ∀ w : Fin 9, wA (w.val + 1) ≤ 47 ∧ wA (w.val + 1) ≤ wA w.val + 7 ∧ wA w.val ≤ 47 := by decide
theorem wA_le {w : Nat} (h : w < 9) : wA (w + 1) ≤ 47 ∧ wA (w + 1) ≤ wA w + 7 ∧ wA w ≤ 47 := wA_le0 ⟨w, h⟩
theorem wW_lt0 : ∀ k : Fin 47, wW k.val < 128 := by decide
theorem wW_lt {k : Nat} (h : k < 47) : wW k < 128 := wW_lt0 ⟨k, h⟩
/-- word w agrees with the text on its first n letters -/
def wM (sg : Nat → Nat) (p w : Nat) : Nat → Bool
  | 0 => true
  | n + 1 => wM sg p w n && (decide (wA w + n < wA (w + 1)) && decide (wW (wA w + n) = sg (p + n)))
def wAny (sg : Nat → Nat) (p n : Nat) : Nat := zIt (fun w m => m ||| (wM sg p w n).toNat) 9 0
def wIs (sg : Nat → Nat) (p n : Nat) : Nat := zIt (fun w s => if wM sg p w n = true ∧ wA w + n = wA (w + 1) then w else s) 9 4294967295
/-- the word read: which, place, wrong, and how many letters were tried -/
def mWd (sg : Nat → Nat) (p : Nat) : Nat → Nat → Nat × Nat × Nat × Nat
  | 0, n => (4294967295, p + n, 1, n)
  | k + 1, n => if wAny sg p (n + 1) = 0 then (4294967295, p + n, 1, n + 1) else if wIs sg p (n + 1) < 2 ^ 31 then (wIs sg p (n + 1), p + n + 1, 0, n + 1) else mWd sg p k (n + 1)
theorem wAny_le {sg : Nat → Nat} {p n : Nat} {i : Nat} : zIt (fun w m => m ||| (wM sg p w n).toNat) i 0 ≤ 1 :=
  zIt_inv (fun m => m ≤ 1) (by decide) (fun w m _ hm => by
    try dsimp only
    have h1 : (wM sg p w n).toNat < 2 := Bool.toNat_lt _
    have := Nat.or_lt_two_pow (n := 1) (show m < 2 ^ 1 by omega) h1
    omega)
theorem wAny_8 {sg : Nat → Nat} {p : Nat} : wAny sg p 8 = 0 :=
  zIt_inv (fun m => m = 0) rfl (fun w m hw hm => by
    try dsimp only
    have h1 : wM sg p w 8 = false := by
      rw [wM, decide_eq_false (by have := (wA_le hw).2; omega)]; simp
    rw [hm, h1]; rfl)
theorem wIs_lt {sg : Nat → Nat} {p n i : Nat} (hi : i ≤ 9) : zIt (fun w s => if wM sg p w n = true ∧ wA w + n = wA (w + 1) then w else s) i 4294967295 < 9 ∨ zIt (fun w s => if wM sg p w n = true ∧ wA w + n = wA (w + 1) then w else s) i 4294967295 = 4294967295 :=
  zIt_inv (fun s => s < 9 ∨ s = 4294967295) (Or.inr rfl) (fun w s hw hs => by
    try dsimp only
    split
    · left; omega
    · exact hs)
theorem wOr0 {m : Nat} {b : Bool} : m ||| b.toNat = 0 ↔ m = 0 ∧ b = false := by
  constructor
  · intro h
    have h1 : m = 0 := Nat.eq_zero_of_le_zero (h ▸ Nat.left_le_or)
    have h2 : b.toNat = 0 := Nat.eq_zero_of_le_zero (h ▸ Nat.right_le_or)
    exact ⟨h1, by cases b <;> simp_all⟩
  · rintro ⟨rfl, rfl⟩; rfl
theorem wAny0 {sg : Nat → Nat} {p n : Nat} : ∀ i, zIt (fun w m => m ||| (wM sg p w n).toNat) i 0 = 0 → ∀ w, w < i → wM sg p w n = false := by
  intro i
  induction i with
  | zero => intro _ w hw; omega
  | succ i ih =>
    intro h w hw
    rw [zIt] at h
    have h2 := wOr0.mp h
    by_cases e : w = i
    · subst e; exact h2.2
    · exact ih h2.1 w (by omega)
theorem wIs0 {sg : Nat → Nat} {p n : Nat} (h : wAny sg p n = 0) : wIs sg p n = 4294967295 :=
  zIt_inv (fun s => s = 4294967295) rfl (fun w s hw hs => by
    try dsimp only
    rw [wAny0 9 h w hw]
    simpa using hs)
def mWL (sg : Nat → Nat) (p n : Nat) : Nat → Nat := fun w => (wM sg p w n).toNat
theorem wAnd1 {b : Bool} : b.toNat &&& 1 = b.toNat := by cases b <;> rfl
