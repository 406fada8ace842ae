/-! the model's words over numbers -/
theorem zInE {x n : Nat} (hx : x < 2 ^ 32) (hn : n ≤ 2 ^ 30) : (nI 0 ≤ nI x ∧ nI x ≤ nI n - nI 1) ↔ x < n := by
  have e1 : nI n - nI 1 = nI n + Int32.ofInt (-1) := by rw [Int32.sub_eq_add_neg]; rfl
  have h0 : ∀ y : Int32, nI 0 ≤ y ↔ ¬ y < 0 := fun y => by rw [Int32.not_lt]; rfl
  rw [h0, nI_lt0 hx]
  by_cases hn0 : n = 0
  · subst hn0
    constructor
    · rintro ⟨h1, h2⟩
      exfalso
      have h3 : ¬ nI x < 0 := fun h => h1 ((nI_lt0 hx).mp h)
      have h4 : nI x ≤ -1 := h2
      have h5 := Int32.not_lt.mp h3
      have h6 : (0 : Int32) ≤ -1 := Int32.le_trans h5 h4
      exact absurd h6 (by decide)
    · intro h; omega
  · rw [e1, nI_dec (by omega)]
    constructor
    · rintro ⟨h1, h2⟩
      have h3 := (nI_leI (by omega) (by omega)).mp h2
      omega
    · intro h
      exact ⟨by omega, (nI_leI (by omega) (by omega)).mpr (by omega)⟩
theorem zInC {x a b : Nat} (hx : x < 2 ^ 32) (ha : a < 2 ^ 31) (hb : b < 2 ^ 31) : (nI a ≤ nI x ∧ nI x ≤ nI b) ↔ (a ≤ x ∧ x ≤ b) := by
  by_cases h : x < 2 ^ 31
  · rw [nI_leI ha h, nI_leI h hb]
  · have h1 : nI x < 0 := (nI_lt0 hx).mpr (by omega)
    constructor
    · rintro ⟨h2, -⟩
      exfalso
      have h3 : (0 : Int32) ≤ nI a := by
        rw [← Int32.not_lt, nI_lt0 (by omega)]; omega
      exact absurd (Int32.lt_of_le_of_lt (Int32.le_trans h3 h2) h1) (Int32.lt_irrefl)
    · intro h; omega
theorem zkern0 : ∀ x y : Fin 64, 64 * x.val + y.val ≠ 0 → zpop ((64 * x.val + y.val) &&& (64 * x.val + y.val - 1)) + 1 = zpop (64 * x.val + y.val) := by decide +kernel
theorem zkern {x : Nat} (h : x < 4096) (h0 : ¬ x = 0) : zpop (x &&& (x - 1)) + 1 = zpop x := by
  have h2 := zkern0 ⟨x / 64, by omega⟩ ⟨x % 64, by omega⟩
  simp only [Nat.div_add_mod] at h2
  exact h2 h0
theorem zHasB {g m : Nat} : (g / 2 ^ m &&& 1 = 1) ↔ g.testBit m = true := by
  rw [Nat.testBit_eq_decide_div_mod_eq, Nat.and_one_is_mod]; simp
theorem zHasL {g m : Nat} : g / 2 ^ m &&& 1 < 2 ^ 32 := Nat.lt_of_le_of_lt Nat.and_le_right (by decide)
theorem zCp_step {S : zS} {p o i : Nat} (h : p ≠ o) : zU (zCp S p o i) o i (zCp S p o i p i) = zCp S p o (i + 1) := by
  funext a b
  rw [zCp_o h]
  unfold zU zCp
  by_cases h1 : a = o
  · subst h1
    by_cases h2 : b = i
    · subst h2; simp
    · by_cases h3 : b < i
      · rw [if_neg (by omega), if_pos ⟨rfl, h3⟩, if_pos ⟨rfl, by omega⟩]
      · rw [if_neg (by omega), if_neg (by omega), if_neg (by omega)]
  · rw [if_neg (by omega), if_neg (by omega), if_neg (by omega)]
theorem zCp_0 {S : zS} {p o : Nat} : zCp S p o 0 = S := by funext a b; simp [zCp]

set_option maxRecDepth 100000 in
set_option maxHeartbeats 4000000 in
theorem c_X6_isIn {l : Launch} (hl : l.stackTraces = false) {G : zG} {S : zS} {J : Int64} {E : UInt64} {a b c : Int32} : nCR l G mX6_isIn 0 0 0 [.int a, .int b, .int c] S J E (some (zi (decide (b ≤ a ∧ a ≤ c)).toNat)) S J E := by
  refine nCR.of hl (by decide) rfl (Nat.le_of_ble_eq_true rfl) (ls := [some (.int a), some (.int b), some (.int c)]) rfl (fun X C hF hX => ?_)
  subst hX
  refine sw_iload_0 C dX6_isIn_0 ?_
  refine sw_iload_1 C dX6_isIn_1 ?_
  refine sw_icmp_lt C 14 dX6_isIn_2 (by decide) (fun c2 => ?_) (fun c2 => ?_)
  · refine sn_iconst C 0 (by decide) dX6_isIn_14 ?_
    exact sn_zret C (v := false) rfl hF dX6_isIn_15 (by decide) (by decide) (by first | (exact (decide_eq_false (fun h => absurd c2 (Int32.not_lt.mpr h.1))).symm) | (exact (decide_eq_false (fun h => absurd c7 (Int32.not_lt.mpr h.2))).symm) | (exact (decide_eq_true ⟨Int32.not_lt.mp c2, Int32.not_lt.mp c7⟩).symm)) rfl rfl rfl
  · refine sw_iload_0 C dX6_isIn_5 ?_
    refine sw_iload_2 C dX6_isIn_6 ?_
    refine sw_icmp_gt C 14 dX6_isIn_7 (by decide) (fun c7 => ?_) (fun c7 => ?_)
    · refine sn_iconst C 0 (by decide) dX6_isIn_14 ?_
      exact sn_zret C (v := false) rfl hF dX6_isIn_15 (by decide) (by decide) (by first | (exact (decide_eq_false (fun h => absurd c2 (Int32.not_lt.mpr h.1))).symm) | (exact (decide_eq_false (fun h => absurd c7 (Int32.not_lt.mpr h.2))).symm) | (exact (decide_eq_true ⟨Int32.not_lt.mp c2, Int32.not_lt.mp c7⟩).symm)) rfl rfl rfl
    · refine sn_iconst C 1 (by decide) dX6_isIn_10 ?_
      refine sw_goto C 15 dX6_isIn_11 (by decide) ?_
      exact sn_zret C (v := true) rfl hF dX6_isIn_15 (by decide) (by decide) (by first | (exact (decide_eq_false (fun h => absurd c2 (Int32.not_lt.mpr h.1))).symm) | (exact (decide_eq_false (fun h => absurd c7 (Int32.not_lt.mpr h.2))).symm) | (exact (decide_eq_true ⟨Int32.not_lt.mp c2, Int32.not_lt.mp c7⟩).symm)) rfl rfl rfl

set_option maxRecDepth 100000 in
set_option maxHeartbeats 4000000 in
theorem c_X6_isHive {l : Launch} (hl : l.stackTraces = false) {G : zG} {S : zS} {J : Int64} {E : UInt64} {x : Nat} (hx : x < 2 ^ 32) : nCR l G mX6_isHive 1 0 0 [zi x] S J E (some (zi (decide (x < 4)).toNat)) S J E := by
  refine nCR.of hl (by decide) rfl (Nat.le_of_ble_eq_true rfl) (ls := [some (zi x)]) rfl (fun X C hF hX => ?_)
  subst hX
  refine sw_iload_0 C dX6_isHive_0 ?_
  refine sn_iconst C 0 (by decide) dX6_isHive_1 ?_
  refine sn_iconst C 3 (by decide) dX6_isHive_2 ?_
  refine sn_cS3r C vX6_isIn lX6_57 dX6_isHive_3 (Nat.le_of_ble_eq_true rfl) (c_X6_isIn hl) (by decide) (by decide) (by decide) ?_
  exact sn_zret C rfl hF dX6_isHive_6 (by decide) (by decide) (by exact decide_eq_decide.mpr ((zInC hx (by decide) (by decide)).trans (by omega))) rfl rfl rfl

set_option maxRecDepth 100000 in
set_option maxHeartbeats 4000000 in
theorem c_X6_isDigit {l : Launch} (hl : l.stackTraces = false) {G : zG} {S : zS} {J : Int64} {E : UInt64} {x : Nat} (hx : x < 2 ^ 32) : nCR l G mX6_isDigit 1 0 0 [zi x] S J E (some (zi (decide (x ≤ 9)).toNat)) S J E := by
  refine nCR.of hl (by decide) rfl (Nat.le_of_ble_eq_true rfl) (ls := [some (zi x)]) rfl (fun X C hF hX => ?_)
  subst hX
  refine sw_iload_0 C dX6_isDigit_0 ?_
  refine sn_iconst C 0 (by decide) dX6_isDigit_1 ?_
  refine sn_bipush C 9 (by decide) dX6_isDigit_2 ?_
  refine sn_cS3r C vX6_isIn lX6_57 dX6_isDigit_4 (Nat.le_of_ble_eq_true rfl) (c_X6_isIn hl) (by decide) (by decide) (by decide) ?_
  exact sn_zret C rfl hF dX6_isDigit_7 (by decide) (by decide) (by exact decide_eq_decide.mpr ((zInC hx (by decide) (by decide)).trans (by omega))) rfl rfl rfl

set_option maxRecDepth 100000 in
set_option maxHeartbeats 4000000 in
theorem c_X6_isEar {l : Launch} (hl : l.stackTraces = false) {G : zG} {S : zS} {J : Int64} {E : UInt64} {n : Nat} (hn : S 13 0 = n) (hz : n ≤ 2 ^ 30) {x : Nat} (hx : x < 2 ^ 32) : nCR l G mX6_isEar 1 0 0 [.ref 12, zi x] S J E (some (zi (decide (x < n)).toNat)) S J E := by
  refine nCR.of hl (by decide) rfl (Nat.le_of_ble_eq_true rfl) (ls := [some (.ref 12), some (zi x)]) rfl (fun X C hF hX => ?_)
  subst hX
  refine sw_iload_1 C dX6_isEar_0 ?_
  refine sn_iconst C 0 (by decide) dX6_isEar_1 ?_
  refine sw_aload_0 C dX6_isEar_2 ?_
  refine sw_getR C (o' := 13) fX6_16 rfl (by decide) rfl rfl (by decide) dX6_isEar_3 ?_
  refine sn_iconst C 0 (by decide) dX6_isEar_6 ?_
  refine sn_ialde C (n) hn rfl (by decide) (by omega) (by decide) dX6_isEar_7 ?_
  refine sn_iconst C 1 (by decide) dX6_isEar_8 ?_
  refine sw_isub C dX6_isEar_9 ?_
  refine sn_cS3r C vX6_isIn lX6_57 dX6_isEar_10 (Nat.le_of_ble_eq_true rfl) (c_X6_isIn hl) (by decide) (by decide) (by decide) ?_
  exact sn_zret C rfl hF dX6_isEar_13 (by decide) (by decide) (by exact decide_eq_decide.mpr (zInE hx hz)) rfl rfl rfl

set_option maxRecDepth 100000 in
set_option maxHeartbeats 4000000 in
theorem c_X6_isRumour {l : Launch} (hl : l.stackTraces = false) {G : zG} {S : zS} {J : Int64} {E : UInt64} {n : Nat} (hn : S 13 1 = n) (hz : n ≤ 2 ^ 30) {x : Nat} (hx : x < 2 ^ 32) : nCR l G mX6_isRumour 1 0 0 [.ref 12, zi x] S J E (some (zi (decide (x < n)).toNat)) S J E := by
  refine nCR.of hl (by decide) rfl (Nat.le_of_ble_eq_true rfl) (ls := [some (.ref 12), some (zi x)]) rfl (fun X C hF hX => ?_)
  subst hX
  refine sw_iload_1 C dX6_isRumour_0 ?_
  refine sn_iconst C 0 (by decide) dX6_isRumour_1 ?_
  refine sw_aload_0 C dX6_isRumour_2 ?_
  refine sw_getR C (o' := 13) fX6_16 rfl (by decide) rfl rfl (by decide) dX6_isRumour_3 ?_
  refine sn_iconst C 1 (by decide) dX6_isRumour_6 ?_
  refine sn_ialde C (n) hn rfl (by decide) (by omega) (by decide) dX6_isRumour_7 ?_
  refine sn_iconst C 1 (by decide) dX6_isRumour_8 ?_
  refine sw_isub C dX6_isRumour_9 ?_
  refine sn_cS3r C vX6_isIn lX6_57 dX6_isRumour_10 (Nat.le_of_ble_eq_true rfl) (c_X6_isIn hl) (by decide) (by decide) (by decide) ?_
  exact sn_zret C rfl hF dX6_isRumour_13 (by decide) (by decide) (by exact decide_eq_decide.mpr (zInE hx hz)) rfl rfl rfl

set_option maxRecDepth 100000 in
set_option maxHeartbeats 4000000 in
theorem c_X6_of {l : Launch} (hl : l.stackTraces = false) {G : zG} {S : zS} {J : Int64} {E : UInt64} {r w : Nat} : nCR l G mX6_of 0 0 0 [zi r, zi w] S J E (some (zi (41 + 5 * r + w))) S J E := by
  refine nCR.of hl (by decide) rfl (Nat.le_of_ble_eq_true rfl) (ls := [some (zi r), some (zi w)]) rfl (fun X C hF hX => ?_)
  subst hX
  refine sn_bipush C 41 (by decide) dX6_of_0 ?_
  refine sn_iconst C 5 (by decide) dX6_of_2 ?_
  refine sw_iload_0 C dX6_of_3 ?_
  refine sn_imul C dX6_of_4 ?_
  refine sn_iadd C dX6_of_5 ?_
  refine sw_iload_1 C dX6_of_6 ?_
  refine sn_iadd C dX6_of_7 ?_
  exact sn_iret C rfl hF dX6_of_8 (by decide) (by decide) (by first | rfl | (simp [*]; done)) rfl rfl rfl

set_option maxRecDepth 100000 in
set_option maxHeartbeats 4000000 in
theorem c_X6_has {l : Launch} (hl : l.stackTraces = false) {G : zG} {S : zS} {J : Int64} {E : UInt64} {g m : Nat} (hg : g < 2 ^ 31) (hm : m < 32) : nCR l G mX6_has 0 0 0 [zi g, zi m] S J E (some (zi (g.testBit m).toNat)) S J E := by
  refine nCR.of hl (by decide) rfl (Nat.le_of_ble_eq_true rfl) (ls := [some (zi g), some (zi m)]) rfl (fun X C hF hX => ?_)
  subst hX
  refine sw_iload_0 C dX6_has_0 ?_
  refine sw_iload_1 C dX6_has_1 ?_
  refine sn_ishr C (by exact hg) (by exact hm) dX6_has_2 ?_
  refine sn_iconst C 1 (by decide) dX6_has_3 ?_
  refine sn_iand C dX6_has_4 ?_
  refine sn_iconst C 1 (by decide) dX6_has_5 ?_
  refine sn_icmp_ne C 13 zHasL (by decide) dX6_has_6 (by decide) (fun c6 => ?_) (fun c6 => ?_)
  · refine sn_iconst C 0 (by decide) dX6_has_13 ?_
    exact sn_zret C (v := false) rfl hF dX6_has_14 (by decide) (by decide) (by first | exact (zHasB.mp c6).symm | exact (Bool.eq_false_iff.mpr (fun h => c6 (zHasB.mpr h))).symm) rfl rfl rfl
  · refine sn_iconst C 1 (by decide) dX6_has_9 ?_
    refine sw_goto C 14 dX6_has_10 (by decide) ?_
    exact sn_zret C (v := true) rfl hF dX6_has_14 (by decide) (by decide) (by first | exact (zHasB.mp c6).symm | exact (Bool.eq_false_iff.mpr (fun h => c6 (zHasB.mpr h))).symm) rfl rfl rfl

set_option maxRecDepth 100000 in
set_option maxHeartbeats 4000000 in
theorem c_X6_bits {l : Launch} (hl : l.stackTraces = false) {G : zG} {S : zS} {J : Int64} {E : UInt64} {x : Nat} (hx : x < 4096) : nCR l G mX6_bits 0 0 0 [zi x] S J E (some (zi (zpop x))) S J E := by
  refine nCR.of hl (by decide) rfl (Nat.le_of_ble_eq_true rfl) (ls := [some (zi x), none, none]) rfl (fun X C hF hX => ?_)
  subst hX
  refine sn_iconst C 0 (by decide) dX6_bits_0 ?_
  refine sw_istore_1 C rfl dX6_bits_1 ?_
  refine sw_iload_0 C dX6_bits_2 ?_
  refine sw_istore_2 C rfl dX6_bits_3 ?_
  have L4 : ∀ (kM i : Nat) (g : Nat), i ≤ zpop x → (g < 4096) → (i + zpop g = zpop x) → zpop x - i < kM → SN G X 0 0 4 [some (zi x), some (zi i), some (zi g)] [] S J E := by
    intro kM
    induction kM with
    | zero => intro i g _ _ _ hkM; exact absurd hkM (by omega)
    | succ kM ih4 =>
      intro i g hi hg hs hkM
      refine sw_iload_2 C dX6_bits_4 ?_
      refine sn_if_eq C 20 (by omega) dX6_bits_5 (by decide) (fun c5 => ?_) (fun c5 => ?_)
      · refine sw_iload_1 C dX6_bits_20 ?_
        exact sn_iret C rfl hF dX6_bits_21 (by decide) (by decide) (by
            subst c5; have : zpop 0 = 0 := by decide
            omega) rfl rfl rfl
      · have hk := zkern hg c5
        refine sn_iinc_1 C rfl dX6_bits_8 ?_
        refine sw_iload_2 C dX6_bits_11 ?_
        refine sw_iload_2 C dX6_bits_12 ?_
        refine sn_iconst C 1 (by decide) dX6_bits_13 ?_
        refine sn_isub C (by omega) dX6_bits_14 ?_
        refine sn_iand C dX6_bits_15 ?_
        refine sw_istore_2 C rfl dX6_bits_16 ?_
        refine sw_goto C 4 dX6_bits_17 (by decide) ?_
        exact ih4 (i + 1) _ (by omega) (Nat.lt_of_le_of_lt Nat.and_le_left hg) (by have := zkern hg c5; omega) (by omega)
  exact L4 _ 0 x (by omega) hx (Nat.zero_add _) (Nat.lt_succ_self _)

set_option maxRecDepth 100000 in
set_option maxHeartbeats 4000000 in
theorem c_X6_fail {l : Launch} (hl : l.stackTraces = false) {G : zG} {S : zS} {J : Int64} {E : UInt64} {k : Nat} : nCR l G mX6_fail 0 0 0 [.ref 12, zi k] S J E (some (zi 0)) (zU S 12 0 k) J E := by
  refine nCR.of hl (by decide) rfl (Nat.le_of_ble_eq_true rfl) (ls := [some (.ref 12), some (zi k)]) rfl (fun X C hF hX => ?_)
  subst hX
  refine sw_aload_0 C dX6_fail_0 ?_
  refine sw_iload_1 C dX6_fail_1 ?_
  refine sn_putI C fX6_47 rfl (by decide) rfl rfl dX6_fail_2 ?_
  refine sn_iconst C 0 (by decide) dX6_fail_5 ?_
  exact sn_iret C rfl hF dX6_fail_6 (by decide) (by decide) (by first | rfl | (simp [*]; done)) rfl rfl rfl

set_option maxRecDepth 100000 in
set_option maxHeartbeats 4000000 in
theorem c_X6_thrown {l : Launch} (hl : l.stackTraces = false) {G : zG} {S : zS} {J : Int64} {E : UInt64}  : nCR l G mX6_thrown 0 0 0 [.ref 12] S J E (some (zi (S 12 0))) S J E := by
  refine nCR.of hl (by decide) rfl (Nat.le_of_ble_eq_true rfl) (ls := [some (.ref 12)]) rfl (fun X C hF hX => ?_)
  subst hX
  refine sw_aload_0 C dX6_thrown_0 ?_
  refine sn_getI C fX6_47 rfl (by decide) rfl dX6_thrown_1 ?_
  exact sn_iret C rfl hF dX6_thrown_4 (by decide) (by decide) (by first | rfl | (simp [*]; done)) rfl rfl rfl

set_option maxRecDepth 100000 in
set_option maxHeartbeats 4000000 in
theorem c_X6_lays {l : Launch} (hl : l.stackTraces = false) {G : zG} {S : zS} {J : Int64} {E : UInt64} {o : Nat} (ho : zSh o = (1, 109)) (ho2 : o < zN) {p : Nat} (hp : zSh p = (1, 109)) (hp2 : p < zN) (hpo : p ≠ o) : nCR l G mX6_lays 0 0 0 [.ref o, .ref p] S J E none (zCp S p o 109) J E := by
  refine nCR.of hl (by decide) rfl (Nat.le_of_ble_eq_true rfl) (ls := [some (.ref o), some (.ref p), none]) rfl (fun X C hF hX => ?_)
  subst hX
  refine sn_iconst C 0 (by decide) dX6_lays_0 ?_
  refine sw_istore_2 C rfl dX6_lays_1 ?_
  have L2 : ∀ (kM i : Nat) , i ≤ 109 → 109 - i < kM → SN G X 0 0 2 [some (.ref o), some (.ref p), some (zi i)] [] (zCp S p o i) J E := by
    intro kM
    induction kM with
    | zero => intro i  _  hkM; exact absurd hkM (by omega)
    | succ kM ih2 =>
      intro i  hi  hkM
      refine sw_iload_2 C dX6_lays_2 ?_
      refine sn_bipush C 109 (by decide) dX6_lays_3 ?_
      refine sn_icmp_ge C 20 (by omega) (by omega) dX6_lays_5 (by decide) (fun c5 => ?_) (fun c5 => ?_)
      · exact sn_vret C rfl hF dX6_lays_20 (by decide) (by decide) (by rw [show i = 109 from by omega]) rfl rfl
      · refine sw_aload_0 C dX6_lays_8 ?_
        refine sw_iload_2 C dX6_lays_9 ?_
        refine sw_aload_1 C dX6_lays_10 ?_
        refine sw_iload_2 C dX6_lays_11 ?_
        refine sn_iald C hp hp2 (by omega) (by decide) dX6_lays_12 ?_
        refine sn_iast C ho ho2 (by omega) (by decide) dX6_lays_13 ?_
        refine sn_iinc_2 C rfl dX6_lays_14 ?_
        refine sw_goto C 2 dX6_lays_17 (by decide) ?_
        rw [zCp_step hpo]; exact ih2 (i + 1)  (by omega)  (by omega)
  have hb := L2 _ 0 (by omega) (Nat.lt_succ_self _)
  rw [zCp_0] at hb
  exact hb

def mBeg (S : zS) : zS := zCp (zU S 12 0 0) 13 14 109
/-- the model's past, one change shifted out; one state laid into it -/
def zSf (S : zS) (i : Nat) : zS := fun a b => if a = 17 ∧ b < i then S 17 (b + 109) else S a b
def zSeg (S : zS) (c i : Nat) : zS := fun a b => if a = 17 ∧ c * 109 ≤ b ∧ b < c * 109 + i then S 14 (b - c * 109) else S a b
theorem zSf_0 {S : zS} : zSf S 0 = S := by funext a b; simp [zSf]
theorem zSf_step {S : zS} {i : Nat} : zU (zSf S i) 17 i (zSf S i 17 (i + 109)) = zSf S (i + 1) := by
  funext a b
  have e : zSf S i 17 (i + 109) = S 17 (i + 109) := by unfold zSf; rw [if_neg (by omega)]
  rw [e]
  unfold zU zSf
  by_cases h1 : a = 17
  · subst h1
    by_cases h2 : b = i
    · subst h2; simp
    · by_cases h3 : b < i
      · rw [if_neg (by omega), if_pos ⟨rfl, h3⟩, if_pos ⟨rfl, by omega⟩]
      · rw [if_neg (by omega), if_neg (by omega), if_neg (by omega)]
  · rw [if_neg (by omega), if_neg (by omega), if_neg (by omega)]
theorem zSeg_0 {S : zS} {c : Nat} : zSeg S c 0 = S := by
  funext a b; unfold zSeg; rw [if_neg (by omega)]
theorem zSeg_o {S : zS} {c i a b : Nat} (h : a ≠ 17) : zSeg S c i a b = S a b := by unfold zSeg; rw [if_neg (fun q => h q.1)]
theorem zSf_o {S : zS} {i a b : Nat} (h : a ≠ 17) : zSf S i a b = S a b := by unfold zSf; rw [if_neg (fun q => h q.1)]
theorem zSeg_step {S : zS} {c i : Nat} : zU (zSeg S c i) 17 (c * 109 + i) (zSeg S c i 14 i) = zSeg S c (i + 1) := by
  funext a b
  rw [zSeg_o (by decide)]
  unfold zU zSeg
  by_cases h1 : a = 17
  · subst h1
    by_cases h2 : b = c * 109 + i
    · subst h2; rw [if_pos ⟨rfl, rfl⟩, if_pos ⟨rfl, by omega, by omega⟩, show c * 109 + i - c * 109 = i from by omega]
    · by_cases h3 : c * 109 ≤ b ∧ b < c * 109 + i
      · rw [if_neg (by omega), if_pos ⟨rfl, h3⟩, if_pos ⟨rfl, by omega⟩]
      · rw [if_neg (by omega), if_neg (by omega), if_neg (by omega)]
  · rw [if_neg (by omega), if_neg (by omega), if_neg (by omega)]
/-- a change put into the past; the end of a change -/
def mPush (S : zS) : zS := zU (zSeg S (S 12 1) 109) 12 1 (S 12 1 + 1)
def mEnd (S : zS) (x : Nat) : Nat × zS := if S 12 0 = 0 then (x, mPush (if S 12 1 = 8 then zU (zSf S 763) 12 1 7 else S)) else (0, zCp S 14 13 109)

set_option maxRecDepth 100000 in
set_option maxHeartbeats 4000000 in
theorem c_X6_begins {l : Launch} (hl : l.stackTraces = false) {G : zG} {S : zS} {J : Int64} {E : UInt64}  : nCR l G mX6_begins 1 0 0 [.ref 12] S J E none (mBeg S) J E := by
  refine nCR.of hl (by decide) rfl (Nat.le_of_ble_eq_true rfl) (ls := [some (.ref 12)]) rfl (fun X C hF hX => ?_)
  subst hX
  refine sw_aload_0 C dX6_begins_0 ?_
  refine sn_iconst C 0 (by decide) dX6_begins_1 ?_
  refine sn_putI C fX6_47 rfl (by decide) rfl rfl dX6_begins_2 ?_
  refine sw_aload_0 C dX6_begins_5 ?_
  refine sw_getR C (o' := 14) fX6_20 rfl (by decide) rfl rfl (by decide) dX6_begins_6 ?_
  refine sw_aload_0 C dX6_begins_9 ?_
  refine sw_getR C (o' := 13) fX6_16 rfl (by decide) rfl rfl (by decide) dX6_begins_10 ?_
  refine sn_cS2v C vX6_lays lX6_50 dX6_begins_13 (Nat.le_of_ble_eq_true rfl) (c_X6_lays hl rfl (by decide) rfl (by decide) (by decide)) (by decide) (by decide) (by decide) ?_
  exact sn_vret C rfl hF dX6_begins_16 (by decide) (by decide) rfl rfl rfl
