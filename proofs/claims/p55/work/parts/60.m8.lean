def mDsum (V : Nat → Nat) (n : Nat) : Nat := zIt (fun e s => s + V (17 + e)) n 0
theorem mDsum_le {V : Nat → Nat} {n : Nat} (hn : n ≤ 12) (hd : ∀ e, e < 12 → V (17 + e) ≤ 9) : mDsum V n ≤ 9 * n := by
  unfold mDsum
  induction n with
  | zero => exact Nat.le_refl _
  | succ n ih => rw [zIt]; have := hd n (by omega); have := ih (by omega); omega
def mGsp (V : Nat → Nat) (n t : Nat) : Nat := zcnt n (fun e => decide (0 < mGos V t e))
