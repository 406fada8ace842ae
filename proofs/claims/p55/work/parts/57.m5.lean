def mInH (V : Nat → Nat) (n r h : Nat) : Nat := zcnt n (fun e => decide (V (5 + e) = h) && (V (41 + 5 * r + 3)).testBit e)
def mBest (V : Nat → Nat) (n r : Nat) : Nat := zIt (fun k b => if mInH V n r b < mInH V n r (k + 1) then k + 1 else b) 3 0
theorem mBest_lt {V : Nat → Nat} {n r i : Nat} (hi : i ≤ 3) : zIt (fun k b => if mInH V n r b < mInH V n r (k + 1) then k + 1 else b) i 0 < 4 :=
  zIt_inv (fun b => b < 4) (by decide) (fun k b hk hb => by (try dsimp only); split <;> omega)
