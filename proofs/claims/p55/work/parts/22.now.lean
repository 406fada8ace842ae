/-! what stands at all times in the scene 'now' -/
def zRb (S : zS) (o : Nat) : Prop := S o 1 ≤ 9 ∧ S o 2 ≤ 1 ∧ S o 3 < 4096 ∧ S o 4 < 4096
def zNow (S : zS) (n t : Nat) : Prop := S 26 0 = n ∧ n ≤ 12 ∧ S 25 4 = t ∧ t ≤ 4 ∧ (∀ e, e < 12 → S 27 e < 4096) ∧ (∀ e, e < 12 → S 30 e < 4) ∧ (∀ e, e < 12 → S 31 e ≤ 9) ∧ (∀ r, r < 4 → zRb S (33 + 2 * r))
theorem zNow.same {S S' : zS} {n t : Nat} (h : zNow S n t) (h0 : S' 26 0 = S 26 0) (h1 : S' 25 4 = S 25 4) (h2 : ∀ e, e < 12 → S' 27 e = S 27 e) (h3 : ∀ e, e < 12 → S' 30 e = S 30 e) (h4 : ∀ e, e < 12 → S' 31 e = S 31 e) (h5 : ∀ r, r < 4 → zRb S' (33 + 2 * r)) : zNow S' n t := by
  obtain ⟨a0, a1, a2, a3, a4, a5, a6, a7⟩ := h
  exact ⟨h0.trans a0, a1, h1.trans a2, a3, fun e he => by rw [h2 e he]; exact a4 e he, fun e he => by rw [h3 e he]; exact a5 e he, fun e he => by rw [h4 e he]; exact a6 e he, h5⟩
theorem zRb.same {S S' : zS} {o : Nat} (h : zRb S o) (hs : ∀ k, S' o k = S o k) : zRb S' o := by
  obtain ⟨a, b, c, d⟩ := h
  exact ⟨by rw [hs]; exact a, by rw [hs]; exact b, by rw [hs]; exact c, by rw [hs]; exact d⟩
theorem zNow.u25 {S : zS} {n t k v : Nat} (h : zNow S n t) (hk : k ≠ 4) : zNow (zU S 25 k v) n t := by
  refine h.same (zU_o (by decide)) (zU_j (fun e => hk e.symm)) (fun e _ => zU_o (by decide)) (fun e _ => zU_o (by decide)) (fun e _ => zU_o (by decide)) (fun r hr => ?_)
  exact (h.2.2.2.2.2.2.2 r hr).same (fun k => zU_o (by omega))
theorem zSpread_off {S : zS} {o n a b : Nat} (h : a ≠ o) (h2 : a ≠ o + 1) : (zSpread S o n).2 a b = S a b := by
  unfold zSpread
  split
  · rfl
  · dsimp only
    split <;> simp [zU_o h, zHrd_off h2]
theorem zSpread_rb {S : zS} {o n : Nat} (hn : n ≤ 12) (h : zRb S o) : zRb (zSpread S o n).2 o := by
  obtain ⟨a, b, c, d⟩ := h
  have e : ∀ k, zHrd S o n o k = S o k := fun k => zHrd_off (by omega)
  have hb : zBel S o n < 4096 := zmask_lt hn _
  have hd : zDbt S o n < 4096 := zmask_lt hn _
  unfold zSpread
  split
  · exact ⟨a, b, c, d⟩
  · dsimp only
    split
    · refine ⟨?_, ?_, ?_, ?_⟩
      · rw [zU_s]; omega
      · rw [zU_j (by decide), zU_j (by decide), zU_j (by decide), e]; exact b
      · rw [zU_j (by decide), zU_j (by decide), zU_s]; exact zOr_lt c hb
      · rw [zU_j (by decide), zU_s]; exact zOr_lt d hd
    · refine ⟨?_, ?_, ?_, ?_⟩
      · rw [zU_j (by decide), zU_j (by decide), e]; exact a
      · rw [zU_j (by decide), zU_j (by decide), e]; exact b
      · rw [zU_j (by decide), zU_s]; exact zOr_lt c hb
      · rw [zU_s]; exact zOr_lt d hd
theorem zSpread_now {S : zS} {n t r : Nat} (h : zNow S n t) (hr : r < 4) : zNow (zSpread S (33 + 2 * r) n).2 n t := by
  refine h.same (zSpread_off (by omega) (by omega)) (zSpread_off (by omega) (by omega)) (fun e _ => zSpread_off (by omega) (by omega)) (fun e _ => zSpread_off (by omega) (by omega)) (fun e _ => zSpread_off (by omega) (by omega)) (fun q hq => ?_)
  by_cases hqr : q = r
  · subst hqr; exact zSpread_rb h.2.1 (h.2.2.2.2.2.2.2 q hq)
  · exact (h.2.2.2.2.2.2.2 q hq).same (fun k => zSpread_off (by omega) (by omega))
theorem zcnt_mono {n : Nat} {p q : Nat → Bool} (h : ∀ i, p i = true → q i = true) : zcnt n p ≤ zcnt n q := by
  unfold zcnt
  induction n with
  | zero => exact Nat.le_refl _
  | succ n ih =>
    rw [zIt, zIt]
    have h1 : (p n).toNat ≤ (q n).toNat := by
      cases hp : p n with
      | false => exact Nat.zero_le _
      | true => rw [h n hp]; exact Nat.le_refl _
    omega
theorem zSpread_aw {S : zS} {o n : Nat} : zpop (S o 3 ||| S o 4) ≤ zpop ((zSpread S o n).2 o 3 ||| (zSpread S o n).2 o 4) := by
  unfold zSpread
  split
  · exact Nat.le_refl _
  · refine zcnt_mono (fun i hi => ?_)
    dsimp only
    split <;> (simp only [zU_s, zU_j (show (3 : Nat) ≠ 1 by decide), zU_j (show (4 : Nat) ≠ 1 by decide), zU_j (show (3 : Nat) ≠ 4 by decide), Nat.testBit_or, Bool.or_eq_true] at hi ⊢; rcases hi with hi | hi <;> simp [hi])
def zPass1 (n r : Nat) (q : Nat × zS) : Nat × zS :=
  (q.1 + (zSpread q.2 (33 + 2 * r) n).1, zU (zSpread q.2 (33 + 2 * r) n).2 25 6 ((zSpread q.2 (33 + 2 * r) n).2 25 6 + (zpop ((zSpread q.2 (33 + 2 * r) n).2 (33 + 2 * r) 3 ||| (zSpread q.2 (33 + 2 * r) n).2 (33 + 2 * r) 4) - zpop (q.2 (33 + 2 * r) 3 ||| q.2 (33 + 2 * r) 4))))
def zRound (n t : Nat) (q : Nat × zS) : Nat × zS := ((zIt (fun r q => zPass1 n r q) t q).1, zU (zIt (fun r q => zPass1 n r q) t q).2 25 5 ((zIt (fun r q => zPass1 n r q) t q).2 25 5 + 1))
def zPassR (n t k : Nat) (S : zS) : Nat × zS := zIt (fun _ q => zRound n t q) k (0, S)
theorem zPass1_now {n t r : Nat} {q : Nat × zS} (h : zNow q.2 n t) (hr : r < 4) : zNow (zPass1 n r q).2 n t := (zSpread_now h hr).u25 (by decide)
theorem zRound_now {n t : Nat} {q : Nat × zS} (h : zNow q.2 n t) : zNow (zRound n t q).2 n t := by
  refine zNow.u25 ?_ (by decide)
  exact zIt_inv (fun q : Nat × zS => zNow q.2 n t) h (fun i q hi hq => zPass1_now hq (by have := h.2.2.2.1; omega))
theorem zPassR_now {n t k : Nat} {S : zS} (h : zNow S n t) : zNow (zPassR n t k S).2 n t := zIt_inv (fun q : Nat × zS => zNow q.2 n t) h (fun _ _ _ hq => zRound_now hq)
