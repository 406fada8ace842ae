def mGos (V : Nat → Nat) (t e : Nat) : Nat := zcnt t (fun r => (V (41 + 5 * r + 3)).testBit e)
/-- rank of rumours, of listeners, in the model -/
def mSA (V : Nat → Nat) (x y : Nat) : Bool := if zpop (V (41 + 5 * x + 3)) = zpop (V (41 + 5 * y + 3)) then (if V (41 + 5 * y + 1) = V (41 + 5 * x + 1) then decide (x < y) else decide (V (41 + 5 * x + 1) < V (41 + 5 * y + 1))) else decide (zpop (V (41 + 5 * y + 3)) < zpop (V (41 + 5 * x + 3)))
def mGA (V : Nat → Nat) (t x y : Nat) : Bool := if mGos V t x = mGos V t y then (if V (17 + y) = V (17 + x) then decide (x < y) else decide (V (17 + x) < V (17 + y))) else decide (mGos V t y < mGos V t x)
def mRkR (V : Nat → Nat) (t r : Nat) : Nat := zcnt t (fun x => mSA V x r)
def mRkL (V : Nat → Nat) (n t e : Nat) : Nat := zcnt n (fun x => mGA V t x e)
theorem zSub0 {a b : Nat} (ha : a < 2 ^ 30) (hb : b < 2 ^ 30) : nI a - nI b = 0 ↔ a = b := by
  constructor
  · intro h
    have h2 : nI a = nI b := by
      have := congrArg (· + nI b) h
      simpa [Int32.sub_add_cancel] using this
    exact (nI_eqU (by omega) (by omega)).mp h2
  · intro h; subst h; exact Int32.sub_self _
theorem nI_wrap (a : Nat) : nI (a + 4294967296) = nI a := Int32.toBitVec_inj.mp (BitVec.eq_of_toNat_eq (by rw [nI_bv, nI_bv, BitVec.toNat_ofNat, BitVec.toNat_ofNat]; omega))
theorem zSubP {a b : Nat} (ha : a < 2 ^ 30) (hb : b < 2 ^ 30) : 0 < nI a - nI b ↔ b < a := by
  by_cases h : b ≤ a
  · rw [pk_sub h]
    exact (show nI 0 < nI (a - b) ↔ b < a from (nI_ltI (by decide) (by omega)).trans ⟨fun h => by omega, fun h => by omega⟩)
  · constructor
    · intro h2
      exfalso
      have e : nI a - nI b = nI (a + (4294967296 - b)) := by
        have h3 : nI a = nI (a + (4294967296 - b)) + nI b := by rw [nI_add, show a + (4294967296 - b) + b = a + 4294967296 from by omega, nI_wrap]
        rw [h3, Int32.add_sub_cancel]
      rw [e] at h2
      have h3 : nI (a + (4294967296 - b)) < 0 := (nI_lt0 (by omega)).mpr (by omega)
      exact Int32.lt_irrefl (Int32.lt_trans h2 h3)
    · intro h2; omega

theorem zFind_range {p : Nat → Bool} : ∀ (k i : Nat), zFind p k i = 4294967295 ∨ (i ≤ zFind p k i ∧ zFind p k i < i + k) := by
  intro k
  induction k with
  | zero => intro i; exact Or.inl rfl
  | succ k ih =>
    intro i
    cases h : p i with
    | true => rw [zFind_hit h]; right; omega
    | false =>
      rw [zFind_step h]
      rcases ih (i + 1) with h1 | h1
      · exact Or.inl h1
      · right; omega
