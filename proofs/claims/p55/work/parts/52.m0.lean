/-! the model's words over numbers -/
theorem zInE {x n : Nat} (hx : x < 2 ^ 32) (hn : n ≤ 2 ^ 30) : (nI 0 ≤ nI x ∧ nI x ≤ nI n - nI 1) ↔ x < n := by
  have e1 : nI n - nI 1 = nI n + Int32.ofInt (-1) := by rw [Int32.sub_eq_add_neg]; rfl
  have h0 : ∀ y : Int32, nI 0 ≤ y ↔ ¬ y < 0 := fun y => by rw [Int32.not_lt]; rfl
  rw [h0, nI_lt0 hx]
  by_cases hn0 : n = 0
  · subst hn0
    constructor
    · rintro ⟨h1, h2⟩
      exfalso
      have h3 : ¬ nI x < 0 := fun h => h1 ((nI_lt0 hx).mp h)
      have h4 : nI x ≤ -1 := h2
      have h5 := Int32.not_lt.mp h3
      have h6 : (0 : Int32) ≤ -1 := Int32.le_trans h5 h4
      exact absurd h6 (by decide)
    · intro h; omega
  · rw [e1, nI_dec (by omega)]
    constructor
    · rintro ⟨h1, h2⟩
      have h3 := (nI_leI (by omega) (by omega)).mp h2
      omega
    · intro h
      exact ⟨by omega, (nI_leI (by omega) (by omega)).mpr (by omega)⟩
theorem zInC {x a b : Nat} (hx : x < 2 ^ 32) (ha : a < 2 ^ 31) (hb : b < 2 ^ 31) : (nI a ≤ nI x ∧ nI x ≤ nI b) ↔ (a ≤ x ∧ x ≤ b) := by
  by_cases h : x < 2 ^ 31
  · rw [nI_leI ha h, nI_leI h hb]
  · have h1 : nI x < 0 := (nI_lt0 hx).mpr (by omega)
    constructor
    · rintro ⟨h2, -⟩
      exfalso
      have h3 : (0 : Int32) ≤ nI a := by
        rw [← Int32.not_lt, nI_lt0 (by omega)]; omega
      exact absurd (Int32.lt_of_le_of_lt (Int32.le_trans h3 h2) h1) (Int32.lt_irrefl)
    · intro h; omega
theorem zkern0 : ∀ x y : Fin 64, 64 * x.val + y.val ≠ 0 → zpop ((64 * x.val + y.val) &&& (64 * x.val + y.val - 1)) + 1 = zpop (64 * x.val + y.val) := by decide +kernel
theorem zkern {x : Nat} (h : x < 4096) (h0 : ¬ x = 0) : zpop (x &&& (x - 1)) + 1 = zpop x := by
  have h2 := zkern0 ⟨x / 64, by omega⟩ ⟨x % 64, by omega⟩
  simp only [Nat.div_add_mod] at h2
  exact h2 h0
theorem zHasB {g m : Nat} : (g / 2 ^ m &&& 1 = 1) ↔ g.testBit m = true := by
  rw [Nat.testBit_eq_decide_div_mod_eq, Nat.and_one_is_mod]; simp
theorem zHasL {g m : Nat} : g / 2 ^ m &&& 1 < 2 ^ 32 := Nat.lt_of_le_of_lt Nat.and_le_right (by decide)
theorem zCp_step {S : zS} {p o i : Nat} (h : p ≠ o) : zU (zCp S p o i) o i (zCp S p o i p i) = zCp S p o (i + 1) := by
  funext a b
  rw [zCp_o h]
  unfold zU zCp
  by_cases h1 : a = o
  · subst h1
    by_cases h2 : b = i
    · subst h2; simp
    · by_cases h3 : b < i
      · rw [if_neg (by omega), if_pos ⟨rfl, h3⟩, if_pos ⟨rfl, by omega⟩]
      · rw [if_neg (by omega), if_neg (by omega), if_neg (by omega)]
  · rw [if_neg (by omega), if_neg (by omega), if_neg (by omega)]
theorem zCp_0 {S : zS} {p o : Nat} : zCp S p o 0 = S := by funext a b; simp [zCp]

def mBeg (S : zS) : zS := zCp (zU S 12 0 0) 13 14 109
/-- the model's past, one change shifted out; one state laid into it -/
def zSf (S : zS) (i : Nat) : zS := fun a b => if a = 17 ∧ b < i then S 17 (b + 109) else S a b
def zSeg (S : zS) (c i : Nat) : zS := fun a b => if a = 17 ∧ c * 109 ≤ b ∧ b < c * 109 + i then S 14 (b - c * 109) else S a b
theorem zSf_0 {S : zS} : zSf S 0 = S := by funext a b; simp [zSf]
theorem zSf_step {S : zS} {i : Nat} : zU (zSf S i) 17 i (zSf S i 17 (i + 109)) = zSf S (i + 1) := by
  funext a b
  have e : zSf S i 17 (i + 109) = S 17 (i + 109) := by unfold zSf; rw [if_neg (by omega)]
  rw [e]
  unfold zU zSf
  by_cases h1 : a = 17
  · subst h1
    by_cases h2 : b = i
    · subst h2; simp
    · by_cases h3 : b < i
      · rw [if_neg (by omega), if_pos ⟨rfl, h3⟩, if_pos ⟨rfl, by omega⟩]
      · rw [if_neg (by omega), if_neg (by omega), if_neg (by omega)]
  · rw [if_neg (by omega), if_neg (by omega), if_neg (by omega)]
theorem zSeg_0 {S : zS} {c : Nat} : zSeg S c 0 = S := by
  funext a b; unfold zSeg; rw [if_neg (by omega)]
theorem zSeg_o {S : zS} {c i a b : Nat} (h : a ≠ 17) : zSeg S c i a b = S a b := by unfold zSeg; rw [if_neg (fun q => h q.1)]
theorem zSf_o {S : zS} {i a b : Nat} (h : a ≠ 17) : zSf S i a b = S a b := by unfold zSf; rw [if_neg (fun q => h q.1)]
theorem zSeg_step {S : zS} {c i : Nat} : zU (zSeg S c i) 17 (c * 109 + i) (zSeg S c i 14 i) = zSeg S c (i + 1) := by
  funext a b
  rw [zSeg_o (by decide)]
  unfold zU zSeg
  by_cases h1 : a = 17
  · subst h1
    by_cases h2 : b = c * 109 + i
    · subst h2; rw [if_pos ⟨rfl, rfl⟩, if_pos ⟨rfl, by omega, by omega⟩, show c * 109 + i - c * 109 = i from by omega]
    · by_cases h3 : c * 109 ≤ b ∧ b < c * 109 + i
      · rw [if_neg (by omega), if_pos ⟨rfl, h3⟩, if_pos ⟨rfl, by omega⟩]
      · rw [if_neg (by omega), if_neg (by omega), if_neg (by omega)]
  · rw [if_neg (by omega), if_neg (by omega), if_neg (by omega)]
/-- a change put into the past; the end of a change -/
def mPush (S : zS) : zS := zU (zSeg S (S 12 1) 109) 12 1 (S 12 1 + 1)
def mEnd (S : zS) (x : Nat) : Nat × zS := if S 12 0 = 0 then (x, mPush (if S 12 1 = 8 then zU (zSf S 763) 12 1 7 else S)) else (0, zCp S 14 13 109)
