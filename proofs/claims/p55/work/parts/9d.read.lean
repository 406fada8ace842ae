/-! a script read: the class's reader -/
section RD
variable {A Q : zS}
theorem zDig_same (h1 : Q 5 1 = A 5 1) (h6 : ∀ k, Q 6 k = A 6 k) : ∀ k p v, zDig Q k p v = zDig A k p v := by
  intro k
  induction k with
  | zero => intro p v; rfl
  | succ k ih =>
    intro p v
    have e : zDgt Q p = zDgt A p := by unfold zDgt; rw [h1, h6]
    rw [zDig, zDig, e, h6, ih]
theorem zTake_same (h1 : Q 5 1 = A 5 1) (h6 : ∀ k, Q 6 k = A 6 k) {w r m f s : Nat} : zTake Q w r m f s = zTake A w r m f s := by
  unfold zTake
  simp only [zDig_same h1 h6, h1, h6]
theorem zMt_same (h1 : Q 5 1 = A 5 1) (h6 : ∀ k, Q 6 k = A 6 k) {k : Nat} : ∀ n i r m f s, zMt Q k n i r m f s = zMt A k n i r m f s := by
  intro n
  induction n with
  | zero => intro i r m f s; rfl
  | succ n ih => intro i r m f s; rw [zMt, zMt, zTake_same h1 h6, ih]
theorem zMatch_same (h1 : Q 5 1 = A 5 1) (h6 : ∀ k, Q 6 k = A 6 k) {k p : Nat} : zMatch Q k p = zMatch A k p := by unfold zMatch; exact zMt_same h1 h6 _ _ _ _ _ _
theorem zFur_same (h1 : Q 5 1 = A 5 1) (h6 : ∀ k, Q 6 k = A 6 k) {p : Nat} : zFur Q p = zFur A p := by
  have e : (fun k => zMatch Q k p) = (fun k => zMatch A k p) := funext (fun k => zMatch_same h1 h6)
  obtain ⟨F, hF⟩ : ∃ F : (Nat → Bool × Nat × Nat × Nat × Nat) → Nat × Nat, F = fun g => zIt (fun k (w : Nat × Nat) => if (g k).2.1 < w.2 then w else (k, (g k).2.1 + 1)) 10 (0, 0) := ⟨_, rfl⟩
  have eQ : ∀ X : zS, zFur X p = F (fun k => zMatch X k p) := fun X => by rw [hF]; rfl
  rw [eQ, eQ, e]
end RD
