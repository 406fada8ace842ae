/-! foresight, halves and quotients -/
theorem zSpread_now3 {S : zS} {n t : Nat} (h : zNow S n t) : zNow (zSpread S 3 n).2 n t := by
  refine h.same (zSpread_off (by omega) (by omega)) (zSpread_off (by omega) (by omega)) (fun e _ => zSpread_off (by omega) (by omega)) (fun e _ => zSpread_off (by omega) (by omega)) (fun e _ => zSpread_off (by omega) (by omega)) (fun q hq => ?_)
  exact (h.2.2.2.2.2.2.2 q hq).same (fun k => zSpread_off (by omega) (by omega))
theorem zRcp_now3 {S : zS} {n t o : Nat} (h : zNow S n t) : zNow (zRcp S 3 o) n t := by
  refine h.same (zRcp_o (by omega) (by omega)) (zRcp_o (by omega) (by omega)) (fun e _ => zRcp_o (by omega) (by omega)) (fun e _ => zRcp_o (by omega) (by omega)) (fun e _ => zRcp_o (by omega) (by omega)) (fun q hq => ?_)
  exact (h.2.2.2.2.2.2.2 q hq).same (fun k => zRcp_o (by omega) (by omega))
theorem zRcp_rb3 {S : zS} {o : Nat} (h : zRb S o) (ho : o ≠ 3) : zRb (zRcp S 3 o) 3 := by
  obtain ⟨a, b, c, d⟩ := h
  exact ⟨by rw [zRcp_is ho (by decide)]; exact a, by rw [zRcp_is ho (by decide)]; exact b, by rw [zRcp_is ho (by decide)]; exact c, by rw [zRcp_is ho (by decide)]; exact d⟩
def zFore (n e : Nat) : Nat → Nat → zS → Nat × zS
  | 0, _, q => (4294967295, q)
  | k + 1, r, q => if ((zSpread q 3 n).2 3 3 ||| (zSpread q 3 n).2 3 4).testBit e then (r, (zSpread q 3 n).2) else zFore n e k (r + 1) (zSpread q 3 n).2
def zFwd (n m : Nat) (S : zS) : zS := zIt (fun _ q => (zSpread q 3 n).2) m S
theorem zDsum_le {S : zS} {n : Nat} (hn : n ≤ 12) (hd : ∀ e, e < 12 → S 31 e ≤ 9) : zDsum S n ≤ 9 * n := by
  unfold zDsum
  induction n with
  | zero => exact Nat.le_refl _
  | succ n ih => rw [zIt]; have := ih (by omega); have := hd n (by omega); omega
theorem zDiv_ok : ∀ s : Fin 109, ∀ n : Fin 12, vf_n64 (FP.ddiv (FP.i2d (nI s.val)) (FP.i2d (nI (n.val + 1)))) := by
  unfold vf_n64
  decide +kernel
theorem zFdiv_ok : ∀ s : Fin 13, ∀ n : Fin 12, vf_n32 (FP.fdiv (FP.i2f (nI s.val)) (FP.i2f (nI (n.val + 1)))) := by
  unfold vf_n32
  decide +kernel
theorem zF2d_ok : ∀ s : Fin 13, ∀ n : Fin 12, vf_n64 (FP.f2d (FP.fdiv (FP.i2f (nI s.val)) (FP.i2f (nI (n.val + 1))))) := by
  unfold vf_n64
  decide +kernel
