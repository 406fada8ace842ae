/-! counting and masks -/
theorem zmask_s {n : Nat} {p : Nat → Bool} : zmask (n + 1) p = if p n = true then zmask n p ||| 1 * 2 ^ n else zmask n p := rfl
theorem zmask_bit {p : Nat → Bool} {k : Nat} : ∀ n, (zmask n p).testBit k = (decide (k < n) && p k) := by
  intro n
  induction n with
  | zero => simp [zmask, zIt]
  | succ n ih =>
    rw [zmask_s]
    by_cases hp : p n = true
    · rw [if_pos hp, Nat.testBit_or, ih, Nat.one_mul, Nat.testBit_two_pow]
      by_cases hk : k = n
      · subst hk; simp [hp]
      · rw [show decide (n = k) = false from decide_eq_false (fun h => hk h.symm), Bool.or_false]
        congr 1
        exact decide_eq_decide.mpr (by omega)
    · rw [if_neg hp, ih]
      by_cases hk : k = n
      · subst hk
        have : p k = false := by simpa using hp
        simp [this]
      · congr 1
        exact decide_eq_decide.mpr (by omega)
theorem zmk_mask {n : Nat} {p : Nat → Bool} : zmk n p = zmask n p := by
  induction n with
  | zero => rfl
  | succ n ih =>
    have e : zmk (n + 1) p = zmk n p ||| (if p n = true then 1 * 2 ^ n else 0) := rfl
    rw [e, ih, zmask_s]
    split <;> simp
theorem zmask_congr {n : Nat} {p q : Nat → Bool} (h : ∀ i, i < n → p i = q i) : zmask n p = zmask n q := by
  apply Nat.eq_of_testBit_eq
  intro i
  rw [zmask_bit, zmask_bit]
  by_cases hi : i < n
  · rw [h i hi]
  · rw [decide_eq_false hi]; rfl
theorem zcnt_s {n : Nat} {p : Nat → Bool} : zcnt (n + 1) p = zcnt n p + (p n).toNat := rfl
theorem zcnt_congr {n : Nat} {p q : Nat → Bool} (h : ∀ i, i < n → p i = q i) : zcnt n p = zcnt n q := by
  induction n with
  | zero => rfl
  | succ n ih => rw [zcnt_s, zcnt_s, ih (fun i hi => h i (by omega)), h n (by omega)]
theorem zcnt_ext {n : Nat} {p : Nat → Bool} : ∀ m, n ≤ m → (∀ i, n ≤ i → p i = false) → zcnt m p = zcnt n p := by
  intro m
  induction m with
  | zero => intro h _; have : n = 0 := by omega
            rw [this]
  | succ m ih =>
    intro h hp
    by_cases e : n = m + 1
    · rw [e]
    · rw [zcnt_s, ih (by omega) hp, hp m (by omega)]; rfl
theorem zcnt_0 {n : Nat} {p : Nat → Bool} (h : ∀ i, i < n → p i = false) : zcnt n p = 0 := by
  induction n with
  | zero => rfl
  | succ n ih => rw [zcnt_s, ih (fun i hi => h i (by omega)), h n (by omega)]; rfl
theorem zcnt_or {n : Nat} {p q : Nat → Bool} (h : ∀ i, i < n → ¬ (p i = true ∧ q i = true)) : zcnt n (fun i => p i || q i) = zcnt n p + zcnt n q := by
  induction n with
  | zero => rfl
  | succ n ih =>
    rw [zcnt_s, zcnt_s, zcnt_s, ih (fun i hi => h i (by omega))]
    have h2 := h n (by omega)
    cases e1 : p n <;> cases e2 : q n <;> simp_all <;> omega
theorem zpop_mask {n : Nat} (h : n ≤ 12) {p : Nat → Bool} : zpop (zmask n p) = zcnt n p := by
  unfold zpop
  rw [zcnt_ext (n := n) 12 h (fun i hi => by rw [zmask_bit, decide_eq_false (by omega)]; rfl)]
  exact zcnt_congr (fun i hi => by rw [zmask_bit, decide_eq_true hi]; rfl)
theorem zpop_or {x y : Nat} (h : x &&& y = 0) : zpop (x ||| y) = zpop x + zpop y := by
  unfold zpop
  rw [← zcnt_or (fun i _ hc => ?_)]
  · exact zcnt_congr (fun i _ => Nat.testBit_or _ _ _)
  · have h2 : (x &&& y).testBit i = true := by rw [Nat.testBit_and, hc.1, hc.2]; rfl
    rw [h] at h2
    exact absurd h2 (by simp)
theorem zpop_0 : zpop 0 = 0 := by decide
theorem zpop_eq0 {x : Nat} (h : x < 4096) (h0 : zpop x = 0) : x = 0 := by
  apply Classical.byContradiction
  intro hx
  have h2 := zpop_lt (a := 0) (b := x) (by decide) h (fun k hk => by simp at hk) (fun e => hx e.symm)
  omega
theorem zBit_hi {x k : Nat} (h : x < 4096) (hk : 12 ≤ k) : x.testBit k = false :=
  Nat.testBit_lt_two_pow (Nat.lt_of_lt_of_le h (Nat.pow_le_pow_right (n := 2) (by decide) hk))
theorem zpop_congr {x y : Nat} (h : ∀ i, i < 12 → x.testBit i = y.testBit i) : zpop x = zpop y := zcnt_congr h
theorem zAndNot {x y k : Nat} (hk : k < 32) : (x &&& (y ^^^ 4294967295)).testBit k = (x.testBit k && !y.testBit k) := by
  rw [Nat.testBit_and, Nat.testBit_xor, show (4294967295 : Nat) = 2 ^ 32 - 1 from rfl, Nat.testBit_two_pow_sub_one, decide_eq_true hk]
  cases y.testBit k <;> simp
theorem zAnd0 {x y : Nat} : x &&& y = 0 ↔ ∀ k, ¬ (x.testBit k = true ∧ y.testBit k = true) := by
  constructor
  · intro h k hc
    have h2 : (x &&& y).testBit k = true := by rw [Nat.testBit_and, hc.1, hc.2]; rfl
    rw [h] at h2
    exact absurd h2 (by simp)
  · intro h
    apply Nat.eq_of_testBit_eq
    intro k
    rw [Nat.testBit_and]
    have := h k
    cases e1 : x.testBit k <;> cases e2 : y.testBit k <;> simp_all
theorem zEq12 {x y : Nat} (hx : x < 4096) (hy : y < 4096) (h : ∀ k, k < 12 → x.testBit k = y.testBit k) : x = y := by
  apply Nat.eq_of_testBit_eq
  intro k
  by_cases hk : k < 12
  · exact h k hk
  · rw [zBit_hi hx (by omega), zBit_hi hy (by omega)]
theorem nI_mod {x y : Nat} (h : x % 4294967296 = y % 4294967296) : nI x = nI y := Int32.toBitVec_inj.mp (BitVec.eq_of_toNat_eq (by rw [nI_bv, nI_bv, BitVec.toNat_ofNat, BitVec.toNat_ofNat]; exact h))
/-! the tie between a scene and a row of the model -/
def zTie (S : zS) (b : Nat) (V : Nat → Nat) : Prop :=
  V 0 = S (b + 1) 0 ∧ V 1 = S b 4 ∧ V 2 = S b 5 ∧ V 3 = S b 6 ∧ V 4 = S b 7 ∧
  (∀ e, e < 12 → V (5 + e) = S (b + 5) e ∧ V (17 + e) = S (b + 6) e ∧ V (29 + e) = S (b + 2) e) ∧
  (∀ r, r < 4 → V (41 + 5 * r + 0) = S (b + 8 + 2 * r) 1 ∧ (r < S b 4 → V (41 + 5 * r + 1) + S (b + 8 + 2 * r) 2 = 1) ∧ V (41 + 5 * r + 2) = S (b + 8 + 2 * r) 0 ∧ V (41 + 5 * r + 3) = S (b + 8 + 2 * r) 3 ∧ V (41 + 5 * r + 4) = S (b + 8 + 2 * r) 4) ∧
  (∀ r, r < 4 → ∀ e, e < 12 → V (61 + 12 * r + e) = S (b + 8 + 2 * r + 1) e)
theorem zTie.row {S : zS} {b : Nat} {V W : Nat → Nat} (h : zTie S b V) (hv : ∀ k, k < 109 → W k = V k) : zTie S b W := by
  obtain ⟨h0, h1, h2, h3, h4, h5, h6, h7⟩ := h
  refine ⟨(hv _ (by decide)).trans h0, (hv _ (by decide)).trans h1, (hv _ (by decide)).trans h2, (hv _ (by decide)).trans h3, (hv _ (by decide)).trans h4, fun e he => ?_, fun r hr => ?_, fun r hr e he => (hv _ (by omega)).trans (h7 r hr e he)⟩
  · rw [hv _ (by omega), hv _ (by omega), hv _ (by omega)]; exact h5 e he
  · rw [hv _ (by omega), hv _ (by omega), hv _ (by omega), hv _ (by omega), hv _ (by omega)]; exact h6 r hr
/-- .. of two scenes that agree -/
theorem zTie.scene {S Q : zS} {b p : Nat} {V : Nat → Nat} (h : zTie S b V) (h0 : Q (p + 1) 0 = S (b + 1) 0) (h4 : ∀ k, 4 ≤ k → k < 8 → Q p k = S b k) (h5 : ∀ e, e < 12 → Q (p + 2) e = S (b + 2) e ∧ Q (p + 5) e = S (b + 5) e ∧ Q (p + 6) e = S (b + 6) e) (h6 : ∀ r, r < 4 → (∀ k, k < 5 → Q (p + 8 + 2 * r) k = S (b + 8 + 2 * r) k) ∧ ∀ k, k < 12 → Q (p + 8 + 2 * r + 1) k = S (b + 8 + 2 * r + 1) k) : zTie Q p V := by
  obtain ⟨a0, a1, a2, a3, a4, a5, a6, a7⟩ := h
  refine ⟨a0.trans h0.symm, a1.trans (h4 4 (by decide) (by decide)).symm, a2.trans (h4 5 (by decide) (by decide)).symm, a3.trans (h4 6 (by decide) (by decide)).symm, a4.trans (h4 7 (by decide) (by decide)).symm, fun e he => ?_, fun r hr => ?_, fun r hr e he => (a7 r hr e he).trans ((h6 r hr).2 e he).symm⟩
  · obtain ⟨b1, b2, b3⟩ := h5 e he
    rw [b1, b2, b3]; exact a5 e he
  · have g := (h6 r hr).1
    rw [g 0 (by decide), g 1 (by decide), g 2 (by decide), g 3 (by decide), g 4 (by decide), h4 4 (by decide) (by decide)]; exact a6 r hr
/-- a scene whose numbers are in their bounds -/
def zGd (S : zS) (b : Nat) : Prop :=
  S (b + 1) 0 ≤ 12 ∧ S b 4 ≤ 4 ∧ (∀ e, e < 12 → S (b + 2) e < 4096 ∧ S (b + 5) e < 4 ∧ S (b + 6) e ≤ 9) ∧
  (∀ e k, e < 12 → (S (b + 2) e).testBit k = true → e < S (b + 1) 0 ∧ k < S (b + 1) 0 ∧ k ≠ e ∧ (S (b + 2) k).testBit e = true) ∧
  S (b + 1) 1 % 4294967296 * 2 = zIt (fun e s => s + zpop (S (b + 2) e)) 12 0 ∧
  (∀ r, r < 4 → zRb S (b + 8 + 2 * r)) ∧
  (∀ r, r < S b 4 → S (b + 8 + 2 * r) 3 &&& S (b + 8 + 2 * r) 4 = 0 ∧ (∀ k, (S (b + 8 + 2 * r) 3).testBit k = true → k < S (b + 1) 0))
theorem zGd.scene {S Q : zS} {b p : Nat} (h : zGd S b) (h0 : ∀ k, k < 2 → Q (p + 1) k = S (b + 1) k) (h4 : ∀ k, 4 ≤ k → k < 8 → Q p k = S b k) (h5 : ∀ e, e < 12 → Q (p + 2) e = S (b + 2) e ∧ Q (p + 5) e = S (b + 5) e ∧ Q (p + 6) e = S (b + 6) e) (h6 : ∀ r, r < 4 → (∀ k, k < 5 → Q (p + 8 + 2 * r) k = S (b + 8 + 2 * r) k)) : zGd Q p := by
  obtain ⟨a0, a1, a2, a3, a4, a5, a6⟩ := h
  have e0 := h0 0 (by decide)
  refine ⟨by rw [e0]; exact a0, by rw [h4 4 (by decide) (by decide)]; exact a1, fun e he => ?_, fun e k he hk => ?_, ?_, fun r hr => ?_, fun r hr => ?_⟩
  · obtain ⟨b1, b2, b3⟩ := h5 e he
    rw [b1, b2, b3]; exact a2 e he
  · rw [(h5 e he).1] at hk
    have g := a3 e k he hk
    rw [e0, (h5 k (by omega)).1]; exact g
  · rw [h0 1 (by decide), a4]
    have : ∀ n, n ≤ 12 → zIt (fun e s => s + zpop (S (b + 2) e)) n 0 = zIt (fun e s => s + zpop (Q (p + 2) e)) n 0 := by
      intro n
      induction n with
      | zero => intro _; rfl
      | succ n ih => intro hn; rw [zIt, zIt, ih (by omega), (h5 n (by omega)).1]
    exact this 12 (Nat.le_refl _)
  · have g := h6 r hr
    obtain ⟨c1, c2, c3, c4⟩ := a5 r hr
    exact ⟨by rw [g 1 (by decide)]; exact c1, by rw [g 2 (by decide)]; exact c2, by rw [g 3 (by decide)]; exact c3, by rw [g 4 (by decide)]; exact c4⟩
  · rw [h4 4 (by decide) (by decide)] at hr
    have g := h6 r (by omega)
    rw [g 3 (by decide), g 4 (by decide), e0]; exact a6 r hr
theorem zGd.now {S : zS} (h : zGd S 25) : zNow S (S 26 0) (S 25 4) := by
  obtain ⟨a0, a1, a2, a3, a4, a5, a6⟩ := h
  exact ⟨rfl, a0, rfl, a1, fun e he => (a2 e he).1, fun e he => (a2 e he).2.1, fun e he => (a2 e he).2.2, fun r hr => by have := a5 r hr; rw [show 25 + 8 + 2 * r = 33 + 2 * r from by omega] at this; exact this⟩
