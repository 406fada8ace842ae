/-- the model's row, its bounds -/
def mNow (S : zS) (n t : Nat) : Prop := S 13 0 = n ∧ n ≤ 12 ∧ S 13 1 = t ∧ t ≤ 4 ∧ (∀ e, e < 12 → S 13 (5 + e) < 4 ∧ S 13 (17 + e) ≤ 9 ∧ S 13 (29 + e) < 4096) ∧ (∀ r, r < 4 → S 13 (41 + 5 * r + 0) ≤ 9 ∧ S 13 (41 + 5 * r + 1) ≤ 1 ∧ S 13 (41 + 5 * r + 3) < 4096 ∧ S 13 (41 + 5 * r + 4) < 4096)
def mFl (S : zS) (k : Nat) : Nat × zS := (0, zU S 12 0 k)
def mAdds (S : zS) (n x y : Nat) : Nat × zS :=
  if x < 4 ∧ y ≤ 9 then (if n = 12 then mFl S 2 else (n, zU (zU (zU S 13 (5 + n) x) 13 (17 + n) y) 13 0 (n + 1))) else mFl S 1
def mLsum (S : zS) (n : Nat) : Nat := zIt (fun e s => s + zpop (S 13 (29 + e))) n 0
def mLinks (S : zS) (n : Nat) : Nat := mLsum S n / 2
def mTurn (S : zS) (x y : Nat) : zS := zU (zU S 13 (29 + x) (S 13 (29 + x) ^^^ 1 * 2 ^ y)) 13 (29 + y) (zU S 13 (29 + x) (S 13 (29 + x) ^^^ 1 * 2 ^ y) 13 (29 + y) ^^^ 1 * 2 ^ x)
def mJoins (S : zS) (n x y : Nat) : Nat × zS :=
  if x < n ∧ y < n then (if x = y then mFl S 2 else if (S 13 (29 + x)).testBit y = true then mFl S 3 else (mLinks (mTurn S x y) n, mTurn S x y)) else mFl S 1
def mCuts (S : zS) (n x y : Nat) : Nat × zS :=
  if x < n ∧ y < n then (if (S 13 (29 + x)).testBit y = true then (mLinks (mTurn S x y) n, mTurn S x y) else mFl S 2) else mFl S 1
def mMoves (S : zS) (n x y : Nat) : Nat × zS :=
  if x < n then (if y < 4 then (if S 13 (5 + x) = y then mFl S 3 else (S 13 (5 + x), zU S 13 (5 + x) y)) else mFl S 2) else mFl S 1
def mStarts (S : zS) (n t x y : Nat) : Nat × zS :=
  if x < n then (if y ≤ 9 then (if t = 4 then mFl S 3 else (t, zU (zU (zU (zU (zU (zU (zU S 13 (41 + 5 * t + 0) y) 13 (41 + 5 * t + 1) 0) 13 (41 + 5 * t + 2) x) 13 (41 + 5 * t + 3) (1 * 2 ^ x)) 13 (41 + 5 * t + 4) 0) 13 (61 + 12 * t + x) (S 13 2)) 13 1 (t + 1))) else mFl S 2) else mFl S 1
def mChk (S : zS) (r e : Nat) : zS :=
  let A := zU S 13 (41 + 5 * r + 3) (S 13 (41 + 5 * r + 3) ^^^ 1 * 2 ^ e)
  let B := zU A 13 (41 + 5 * r + 4) (A 13 (41 + 5 * r + 4) ||| 1 * 2 ^ e)
  zU B 13 4 (B 13 4 + 1)
def mChecks (S : zS) (n t r e : Nat) : Nat × zS :=
  if r < t ∧ e < n then (if (S 13 (41 + 5 * r + 3)).testBit e = true then (if S 13 (17 + e) ≤ S 13 (41 + 5 * r + 0) then (0, S) else (1, mChk S r e)) else mFl S 2) else mFl S 1
def mDenies (S : zS) (t r : Nat) : Nat × zS :=
  if r < t then (if S 13 (41 + 5 * r + 1) = 1 then mFl S 2 else (zpop (S 13 (41 + 5 * r + 3)), zU S 13 (41 + 5 * r + 1) 1)) else mFl S 1
def mAnswers (S : zS) (t r y : Nat) : Nat × zS :=
  if r < t then (if y ≤ 9 then (if S 13 (41 + 5 * r + 1) = 0 then mFl S 3 else (S 13 (41 + 5 * r + 0), zU (zU S 13 (41 + 5 * r + 1) 0) 13 (41 + 5 * r + 0) y)) else mFl S 2) else mFl S 1
theorem mLsum_le {S : zS} (n : Nat) : mLsum S n ≤ 12 * n := by
  unfold mLsum
  induction n with
  | zero => exact Nat.le_refl _
  | succ n ih => rw [zIt]; have := zpop_le (S 13 (29 + n)); omega
theorem zXor_lt {x i : Nat} (hx : x < 4096) (hi : i < 12) : x ^^^ 1 * 2 ^ i < 4096 := Nat.xor_lt_two_pow (n := 12) hx (zBit_lt hi)
theorem mTurn_lt {S : zS} {x y : Nat} (hls : ∀ e, e < 12 → S 13 (29 + e) < 4096) (hx : x < 12) (hy : y < 12) : ∀ e, e < 12 → mTurn S x y 13 (29 + e) < 4096 := by
  intro e he
  have h1 : ∀ e, e < 12 → zU S 13 (29 + x) (S 13 (29 + x) ^^^ 1 * 2 ^ y) 13 (29 + e) < 4096 := by
    intro e he
    by_cases h : 29 + e = 29 + x
    · rw [h, zU_s]; exact zXor_lt (hls x hx) hy
    · rw [zU_j h]; exact hls e he
  unfold mTurn
  by_cases h : 29 + e = 29 + y
  · rw [h, zU_s]; exact zXor_lt (h1 y hy) hx
  · rw [zU_j h]; exact h1 e he

set_option maxRecDepth 100000 in
set_option maxHeartbeats 4000000 in
theorem c_X6_adds {l : Launch} (hl : l.stackTraces = false) {G : zG} {S : zS} {J : Int64} {E : UInt64} {n : Nat} (hn : S 13 0 = n) (hz : n ≤ 12) {x y : Nat} (hx : x < 2 ^ 32) (hy : y < 2 ^ 32) : nCR l G mX6_adds 2 0 0 [.ref 12, zi x, zi y] S J E (some (zi (mAdds S n x y).1)) (mAdds S n x y).2 J E := by
  refine nCR.of hl (by decide) rfl (Nat.le_of_ble_eq_true rfl) (ls := [some (.ref 12), some (zi x), some (zi y), none]) rfl (fun X C hF hX => ?_)
  subst hX
  refine sw_iload_1 C dX6_adds_0 ?_
  refine sn_cS1r C vX6_isHive lX6_65 dX6_adds_1 (Nat.le_of_ble_eq_true rfl) (c_X6_isHive hl hx) (by decide) (by decide) (by decide) ?_
  refine sn_if_eqB C 14 dX6_adds_4 (by decide) (fun c4 => ?_) (fun c4 => ?_)
  · simp only [decide_eq_false_iff_not, decide_eq_true_eq] at c4
    refine sw_aload_0 C dX6_adds_14 ?_
    refine sn_iconst C 1 (by decide) dX6_adds_15 ?_
    refine sn_cV1r C vX6_fail lX6_72 rfl (by decide) rfl rfl dX6_adds_16 (Nat.le_of_ble_eq_true rfl) (c_X6_fail hl) (by decide) (by decide) (by decide) ?_
    exact sn_iret C rfl hF dX6_adds_19 (by decide) (by decide) (by unfold mAdds; split <;> (try split) <;> (try split) <;> (try split) <;> first | rfl | omega | (simp_all; done)) (by unfold mAdds; split <;> (try split) <;> (try split) <;> (try split) <;> first | rfl | (exfalso; omega) | (exfalso; simp_all; done)) rfl rfl
  · simp only [decide_eq_false_iff_not, decide_eq_true_eq] at c4
    refine sw_iload_2 C dX6_adds_7 ?_
    refine sn_cS1r C vX6_isDigit lX6_69 dX6_adds_8 (Nat.le_of_ble_eq_true rfl) (c_X6_isDigit hl hy) (by decide) (by decide) (by decide) ?_
    refine sn_if_neB C 20 dX6_adds_11 (by decide) (fun c11 => ?_) (fun c11 => ?_)
    · simp only [decide_eq_false_iff_not, decide_eq_true_eq] at c11
      refine sw_aload_0 C dX6_adds_20 ?_
      refine sw_getR C (o' := 13) fX6_16 rfl (by decide) rfl rfl (by decide) dX6_adds_21 ?_
      refine sn_iconst C 0 (by decide) dX6_adds_24 ?_
      refine sn_ialde C (n) hn rfl (by decide) (by omega) (by decide) dX6_adds_25 ?_
      refine sw_istore_3 C rfl dX6_adds_26 ?_
      refine sw_iload_3 C dX6_adds_27 ?_
      refine sn_bipush C 12 (by decide) dX6_adds_28 ?_
      refine sn_icmp_ne C 39 (by omega) (by decide) dX6_adds_30 (by decide) (fun c30 => ?_) (fun c30 => ?_)
      · refine sw_aload_0 C dX6_adds_39 ?_
        refine sw_getR C (o' := 13) fX6_16 rfl (by decide) rfl rfl (by decide) dX6_adds_40 ?_
        refine sn_iconst C 5 (by decide) dX6_adds_43 ?_
        refine sw_iload_3 C dX6_adds_44 ?_
        refine sn_iadd C dX6_adds_45 ?_
        refine sw_iload_1 C dX6_adds_46 ?_
        refine sn_iast C rfl (by decide) (by omega) (by decide) dX6_adds_47 ?_
        refine sw_aload_0 C dX6_adds_48 ?_
        refine sw_getR C (o' := 13) fX6_16 rfl (by decide) rfl rfl (by decide) dX6_adds_49 ?_
        refine sn_bipush C 17 (by decide) dX6_adds_52 ?_
        refine sw_iload_3 C dX6_adds_54 ?_
        refine sn_iadd C dX6_adds_55 ?_
        refine sw_iload_2 C dX6_adds_56 ?_
        refine sn_iast C rfl (by decide) (by omega) (by decide) dX6_adds_57 ?_
        refine sw_aload_0 C dX6_adds_58 ?_
        refine sw_getR C (o' := 13) fX6_16 rfl (by decide) rfl rfl (by decide) dX6_adds_59 ?_
        refine sn_iconst C 0 (by decide) dX6_adds_62 ?_
        refine sw_dup2 C rfl rfl dX6_adds_63 ?_
        refine sn_ialde C (n) (by rw [zU_j (by omega), zU_j (by omega)]; exact hn) rfl (by decide) (by omega) (by decide) dX6_adds_64 ?_
        refine sn_iconst C 1 (by decide) dX6_adds_65 ?_
        refine sn_iadd C dX6_adds_66 ?_
        refine sn_iast C rfl (by decide) (by omega) (by decide) dX6_adds_67 ?_
        refine sw_iload_3 C dX6_adds_68 ?_
        exact sn_iret C rfl hF dX6_adds_69 (by decide) (by decide) (by unfold mAdds; split <;> (try split) <;> (try split) <;> (try split) <;> first | rfl | omega | (simp_all; done)) (by unfold mAdds; split <;> (try split) <;> (try split) <;> (try split) <;> first | rfl | (exfalso; omega) | (exfalso; simp_all; done)) rfl rfl
      · refine sw_aload_0 C dX6_adds_33 ?_
        refine sn_iconst C 2 (by decide) dX6_adds_34 ?_
        refine sn_cV1r C vX6_fail lX6_72 rfl (by decide) rfl rfl dX6_adds_35 (Nat.le_of_ble_eq_true rfl) (c_X6_fail hl) (by decide) (by decide) (by decide) ?_
        exact sn_iret C rfl hF dX6_adds_38 (by decide) (by decide) (by unfold mAdds; split <;> (try split) <;> (try split) <;> (try split) <;> first | rfl | omega | (simp_all; done)) (by unfold mAdds; split <;> (try split) <;> (try split) <;> (try split) <;> first | rfl | (exfalso; omega) | (exfalso; simp_all; done)) rfl rfl
    · simp only [decide_eq_false_iff_not, decide_eq_true_eq] at c11
      refine sw_aload_0 C dX6_adds_14 ?_
      refine sn_iconst C 1 (by decide) dX6_adds_15 ?_
      refine sn_cV1r C vX6_fail lX6_72 rfl (by decide) rfl rfl dX6_adds_16 (Nat.le_of_ble_eq_true rfl) (c_X6_fail hl) (by decide) (by decide) (by decide) ?_
      exact sn_iret C rfl hF dX6_adds_19 (by decide) (by decide) (by unfold mAdds; split <;> (try split) <;> (try split) <;> (try split) <;> first | rfl | omega | (simp_all; done)) (by unfold mAdds; split <;> (try split) <;> (try split) <;> (try split) <;> first | rfl | (exfalso; omega) | (exfalso; simp_all; done)) rfl rfl

set_option maxRecDepth 100000 in
set_option maxHeartbeats 4000000 in
theorem c_X6_links {l : Launch} (hl : l.stackTraces = false) {G : zG} {S : zS} {J : Int64} {E : UInt64} {n : Nat} (hn : S 13 0 = n) (hz : n ≤ 12) (hls : ∀ e, e < 12 → S 13 (29 + e) < 4096) : nCR l G mX6_links 1 0 0 [.ref 12] S J E (some (zi (mLinks S n))) S J E := by
  refine nCR.of hl (by decide) rfl (Nat.le_of_ble_eq_true rfl) (ls := [some (.ref 12), none, none]) rfl (fun X C hF hX => ?_)
  subst hX
  refine sn_iconst C 0 (by decide) dX6_links_0 ?_
  refine sw_istore_1 C rfl dX6_links_1 ?_
  refine sn_iconst C 0 (by decide) dX6_links_2 ?_
  refine sw_istore_2 C rfl dX6_links_3 ?_
  have L4 : ∀ (kM i : Nat) (s : Nat), i ≤ n → (s = zIt (fun e s => s + zpop (S 13 (29 + e))) i 0) → n - i < kM → SN G X 0 0 4 [some (.ref 12), some (zi s), some (zi i)] [] S J E := by
    intro kM
    induction kM with
    | zero => intro i s _ _ hkM; exact absurd hkM (by omega)
    | succ kM ih4 =>
      intro i s hi hs hkM
      refine sw_iload_2 C dX6_links_4 ?_
      refine sw_aload_0 C dX6_links_5 ?_
      refine sw_getR C (o' := 13) fX6_16 rfl (by decide) rfl rfl (by decide) dX6_links_6 ?_
      refine sn_iconst C 0 (by decide) dX6_links_9 ?_
      refine sn_ialde C (n) hn rfl (by decide) (by omega) (by decide) dX6_links_10 ?_
      refine sn_icmp_ge C 35 (by omega) (by omega) dX6_links_11 (by decide) (fun c11 => ?_) (fun c11 => ?_)
      · have hs2 : s = mLsum S n := by rw [hs, show i = n from by omega]; rfl
        have hs3 := mLsum_le (S := S) n
        refine sw_iload_1 C dX6_links_35 ?_
        refine sn_iconst C 2 (by decide) dX6_links_36 ?_
        refine sn_idiv C (by omega) (by omega) (by omega) dX6_links_37 ?_
        exact sn_iret C rfl hF dX6_links_38 (by decide) (by decide) (by rw [hs2]; rfl) rfl rfl rfl
      · refine sw_iload_1 C dX6_links_14 ?_
        refine sw_aload_0 C dX6_links_15 ?_
        refine sw_getR C (o' := 13) fX6_16 rfl (by decide) rfl rfl (by decide) dX6_links_16 ?_
        refine sn_bipush C 29 (by decide) dX6_links_19 ?_
        refine sw_iload_2 C dX6_links_21 ?_
        refine sn_iadd C dX6_links_22 ?_
        refine sn_iald C rfl (by decide) (by omega) (by decide) dX6_links_23 ?_
        refine sn_cS1r C vX6_bits lX6_85 dX6_links_24 (Nat.le_of_ble_eq_true rfl) (c_X6_bits hl (hls i (by omega))) (by decide) (by decide) (by decide) ?_
        refine sn_iadd C dX6_links_27 ?_
        refine sw_istore_1 C rfl dX6_links_28 ?_
        refine sn_iinc_2 C rfl dX6_links_29 ?_
        refine sw_goto C 4 dX6_links_32 (by decide) ?_
        exact ih4 (i + 1) _ (by omega) (by rw [zIt, ← hs]) (by omega)
  exact L4 _ 0 0 (by omega) rfl (Nat.lt_succ_self _)

set_option maxRecDepth 100000 in
set_option maxHeartbeats 4000000 in
theorem c_X6_turnsLink {l : Launch} (hl : l.stackTraces = false) {G : zG} {S : zS} {J : Int64} {E : UInt64} {x y : Nat} (hx : x < 12) (hy : y < 12) : nCR l G mX6_turnsLink 0 0 0 [.ref 12, zi x, zi y] S J E none (mTurn S x y) J E := by
  refine nCR.of hl (by decide) rfl (Nat.le_of_ble_eq_true rfl) (ls := [some (.ref 12), some (zi x), some (zi y)]) rfl (fun X C hF hX => ?_)
  subst hX
  refine sw_aload_0 C dX6_turnsLink_0 ?_
  refine sw_getR C (o' := 13) fX6_16 rfl (by decide) rfl rfl (by decide) dX6_turnsLink_1 ?_
  refine sn_bipush C 29 (by decide) dX6_turnsLink_4 ?_
  refine sw_iload_1 C dX6_turnsLink_6 ?_
  refine sn_iadd C dX6_turnsLink_7 ?_
  refine sw_dup2 C rfl rfl dX6_turnsLink_8 ?_
  refine sn_iald C rfl (by decide) (by omega) (by decide) dX6_turnsLink_9 ?_
  refine sn_iconst C 1 (by decide) dX6_turnsLink_10 ?_
  refine sw_iload_2 C dX6_turnsLink_11 ?_
  refine sn_ishl C (by omega) dX6_turnsLink_12 ?_
  refine sn_ixor C dX6_turnsLink_13 ?_
  refine sn_iast C rfl (by decide) (by omega) (by decide) dX6_turnsLink_14 ?_
  refine sw_aload_0 C dX6_turnsLink_15 ?_
  refine sw_getR C (o' := 13) fX6_16 rfl (by decide) rfl rfl (by decide) dX6_turnsLink_16 ?_
  refine sn_bipush C 29 (by decide) dX6_turnsLink_19 ?_
  refine sw_iload_2 C dX6_turnsLink_21 ?_
  refine sn_iadd C dX6_turnsLink_22 ?_
  refine sw_dup2 C rfl rfl dX6_turnsLink_23 ?_
  refine sn_iald C rfl (by decide) (by omega) (by decide) dX6_turnsLink_24 ?_
  refine sn_iconst C 1 (by decide) dX6_turnsLink_25 ?_
  refine sw_iload_1 C dX6_turnsLink_26 ?_
  refine sn_ishl C (by omega) dX6_turnsLink_27 ?_
  refine sn_ixor C dX6_turnsLink_28 ?_
  refine sn_iast C rfl (by decide) (by omega) (by decide) dX6_turnsLink_29 ?_
  exact sn_vret C rfl hF dX6_turnsLink_30 (by decide) (by decide) rfl rfl rfl

set_option maxRecDepth 100000 in
set_option maxHeartbeats 4000000 in
theorem c_X6_joins {l : Launch} (hl : l.stackTraces = false) {G : zG} {S : zS} {J : Int64} {E : UInt64} {n : Nat} (hn : S 13 0 = n) (hz : n ≤ 12) (hls : ∀ e, e < 12 → S 13 (29 + e) < 4096) {x y : Nat} (hx : x < 2 ^ 32) (hy : y < 2 ^ 32) : nCR l G mX6_joins 2 0 0 [.ref 12, zi x, zi y] S J E (some (zi (mJoins S n x y).1)) (mJoins S n x y).2 J E := by
  refine nCR.of hl (by decide) rfl (Nat.le_of_ble_eq_true rfl) (ls := [some (.ref 12), some (zi x), some (zi y)]) rfl (fun X C hF hX => ?_)
  subst hX
  refine sw_aload_0 C dX6_joins_0 ?_
  refine sw_iload_1 C dX6_joins_1 ?_
  refine sn_cV1r C vX6_isEar lX6_88 rfl (by decide) rfl rfl dX6_joins_2 (Nat.le_of_ble_eq_true rfl) (c_X6_isEar hl hn (by omega) hx) (by decide) (by decide) (by decide) ?_
  refine sn_if_eqB C 16 dX6_joins_5 (by decide) (fun c5 => ?_) (fun c5 => ?_)
  · simp only [decide_eq_false_iff_not, decide_eq_true_eq] at c5
    refine sw_aload_0 C dX6_joins_16 ?_
    refine sn_iconst C 1 (by decide) dX6_joins_17 ?_
    refine sn_cV1r C vX6_fail lX6_72 rfl (by decide) rfl rfl dX6_joins_18 (Nat.le_of_ble_eq_true rfl) (c_X6_fail hl) (by decide) (by decide) (by decide) ?_
    exact sn_iret C rfl hF dX6_joins_21 (by decide) (by decide) (by unfold mJoins; split <;> (try split) <;> (try split) <;> (try split) <;> first | rfl | omega | (simp_all; done)) (by unfold mJoins; split <;> (try split) <;> (try split) <;> (try split) <;> first | rfl | (exfalso; omega) | (exfalso; simp_all; done)) rfl rfl
  · simp only [decide_eq_false_iff_not, decide_eq_true_eq] at c5
    refine sw_aload_0 C dX6_joins_8 ?_
    refine sw_iload_2 C dX6_joins_9 ?_
    refine sn_cV1r C vX6_isEar lX6_88 rfl (by decide) rfl rfl dX6_joins_10 (Nat.le_of_ble_eq_true rfl) (c_X6_isEar hl hn (by omega) hy) (by decide) (by decide) (by decide) ?_
    refine sn_if_neB C 22 dX6_joins_13 (by decide) (fun c13 => ?_) (fun c13 => ?_)
    · simp only [decide_eq_false_iff_not, decide_eq_true_eq] at c13
      refine sw_iload_1 C dX6_joins_22 ?_
      refine sw_iload_2 C dX6_joins_23 ?_
      refine sn_icmp_ne C 33 (by omega) (by omega) dX6_joins_24 (by decide) (fun c24 => ?_) (fun c24 => ?_)
      · refine sw_aload_0 C dX6_joins_33 ?_
        refine sw_getR C (o' := 13) fX6_16 rfl (by decide) rfl rfl (by decide) dX6_joins_34 ?_
        refine sn_bipush C 29 (by decide) dX6_joins_37 ?_
        refine sw_iload_1 C dX6_joins_39 ?_
        refine sn_iadd C dX6_joins_40 ?_
        refine sn_iald C rfl (by decide) (by omega) (by decide) dX6_joins_41 ?_
        refine sw_iload_2 C dX6_joins_42 ?_
        refine sn_cS2r C vX6_has lX6_91 dX6_joins_43 (Nat.le_of_ble_eq_true rfl) (c_X6_has hl (by have := hls x (by omega); omega) (by omega)) (by decide) (by decide) (by decide) ?_
        refine sn_if_eqB C 55 dX6_joins_46 (by decide) (fun c46 => ?_) (fun c46 => ?_)
        · refine sw_aload_0 C dX6_joins_55 ?_
          refine sw_iload_1 C dX6_joins_56 ?_
          refine sw_iload_2 C dX6_joins_57 ?_
          refine sn_cV2v C vX6_turnsLink lX6_95 rfl (by decide) rfl rfl dX6_joins_58 (Nat.le_of_ble_eq_true rfl) (c_X6_turnsLink hl (by omega) (by omega)) (by decide) (by decide) (by decide) ?_
          refine sw_aload_0 C dX6_joins_61 ?_
          refine sn_cV0r C vX6_links lX6_99 rfl (by decide) rfl rfl dX6_joins_62 (Nat.le_of_ble_eq_true rfl) (c_X6_links hl (show mTurn S x y 13 0 = n from (zU_j (by omega)).trans ((zU_j (by omega)).trans hn)) hz (mTurn_lt hls (by omega) (by omega))) (by decide) (by decide) (by decide) ?_
          exact sn_iret C rfl hF dX6_joins_65 (by decide) (by decide) (by unfold mJoins; split <;> (try split) <;> (try split) <;> (try split) <;> first | rfl | omega | (simp_all; done)) (by unfold mJoins; split <;> (try split) <;> (try split) <;> (try split) <;> first | rfl | (exfalso; omega) | (exfalso; simp_all; done)) rfl rfl
        · refine sw_aload_0 C dX6_joins_49 ?_
          refine sn_iconst C 3 (by decide) dX6_joins_50 ?_
          refine sn_cV1r C vX6_fail lX6_72 rfl (by decide) rfl rfl dX6_joins_51 (Nat.le_of_ble_eq_true rfl) (c_X6_fail hl) (by decide) (by decide) (by decide) ?_
          exact sn_iret C rfl hF dX6_joins_54 (by decide) (by decide) (by unfold mJoins; split <;> (try split) <;> (try split) <;> (try split) <;> first | rfl | omega | (simp_all; done)) (by unfold mJoins; split <;> (try split) <;> (try split) <;> (try split) <;> first | rfl | (exfalso; omega) | (exfalso; simp_all; done)) rfl rfl
      · refine sw_aload_0 C dX6_joins_27 ?_
        refine sn_iconst C 2 (by decide) dX6_joins_28 ?_
        refine sn_cV1r C vX6_fail lX6_72 rfl (by decide) rfl rfl dX6_joins_29 (Nat.le_of_ble_eq_true rfl) (c_X6_fail hl) (by decide) (by decide) (by decide) ?_
        exact sn_iret C rfl hF dX6_joins_32 (by decide) (by decide) (by unfold mJoins; split <;> (try split) <;> (try split) <;> (try split) <;> first | rfl | omega | (simp_all; done)) (by unfold mJoins; split <;> (try split) <;> (try split) <;> (try split) <;> first | rfl | (exfalso; omega) | (exfalso; simp_all; done)) rfl rfl
    · simp only [decide_eq_false_iff_not, decide_eq_true_eq] at c13
      refine sw_aload_0 C dX6_joins_16 ?_
      refine sn_iconst C 1 (by decide) dX6_joins_17 ?_
      refine sn_cV1r C vX6_fail lX6_72 rfl (by decide) rfl rfl dX6_joins_18 (Nat.le_of_ble_eq_true rfl) (c_X6_fail hl) (by decide) (by decide) (by decide) ?_
      exact sn_iret C rfl hF dX6_joins_21 (by decide) (by decide) (by unfold mJoins; split <;> (try split) <;> (try split) <;> (try split) <;> first | rfl | omega | (simp_all; done)) (by unfold mJoins; split <;> (try split) <;> (try split) <;> (try split) <;> first | rfl | (exfalso; omega) | (exfalso; simp_all; done)) rfl rfl

set_option maxRecDepth 100000 in
set_option maxHeartbeats 4000000 in
theorem c_X6_cuts {l : Launch} (hl : l.stackTraces = false) {G : zG} {S : zS} {J : Int64} {E : UInt64} {n : Nat} (hn : S 13 0 = n) (hz : n ≤ 12) (hls : ∀ e, e < 12 → S 13 (29 + e) < 4096) {x y : Nat} (hx : x < 2 ^ 32) (hy : y < 2 ^ 32) : nCR l G mX6_cuts 2 0 0 [.ref 12, zi x, zi y] S J E (some (zi (mCuts S n x y).1)) (mCuts S n x y).2 J E := by
  refine nCR.of hl (by decide) rfl (Nat.le_of_ble_eq_true rfl) (ls := [some (.ref 12), some (zi x), some (zi y)]) rfl (fun X C hF hX => ?_)
  subst hX
  refine sw_aload_0 C dX6_cuts_0 ?_
  refine sw_iload_1 C dX6_cuts_1 ?_
  refine sn_cV1r C vX6_isEar lX6_88 rfl (by decide) rfl rfl dX6_cuts_2 (Nat.le_of_ble_eq_true rfl) (c_X6_isEar hl hn (by omega) hx) (by decide) (by decide) (by decide) ?_
  refine sn_if_eqB C 16 dX6_cuts_5 (by decide) (fun c5 => ?_) (fun c5 => ?_)
  · simp only [decide_eq_false_iff_not, decide_eq_true_eq] at c5
    refine sw_aload_0 C dX6_cuts_16 ?_
    refine sn_iconst C 1 (by decide) dX6_cuts_17 ?_
    refine sn_cV1r C vX6_fail lX6_72 rfl (by decide) rfl rfl dX6_cuts_18 (Nat.le_of_ble_eq_true rfl) (c_X6_fail hl) (by decide) (by decide) (by decide) ?_
    exact sn_iret C rfl hF dX6_cuts_21 (by decide) (by decide) (by unfold mCuts; split <;> (try split) <;> (try split) <;> (try split) <;> first | rfl | omega | (simp_all; done)) (by unfold mCuts; split <;> (try split) <;> (try split) <;> (try split) <;> first | rfl | (exfalso; omega) | (exfalso; simp_all; done)) rfl rfl
  · simp only [decide_eq_false_iff_not, decide_eq_true_eq] at c5
    refine sw_aload_0 C dX6_cuts_8 ?_
    refine sw_iload_2 C dX6_cuts_9 ?_
    refine sn_cV1r C vX6_isEar lX6_88 rfl (by decide) rfl rfl dX6_cuts_10 (Nat.le_of_ble_eq_true rfl) (c_X6_isEar hl hn (by omega) hy) (by decide) (by decide) (by decide) ?_
    refine sn_if_neB C 22 dX6_cuts_13 (by decide) (fun c13 => ?_) (fun c13 => ?_)
    · simp only [decide_eq_false_iff_not, decide_eq_true_eq] at c13
      refine sw_aload_0 C dX6_cuts_22 ?_
      refine sw_getR C (o' := 13) fX6_16 rfl (by decide) rfl rfl (by decide) dX6_cuts_23 ?_
      refine sn_bipush C 29 (by decide) dX6_cuts_26 ?_
      refine sw_iload_1 C dX6_cuts_28 ?_
      refine sn_iadd C dX6_cuts_29 ?_
      refine sn_iald C rfl (by decide) (by omega) (by decide) dX6_cuts_30 ?_
      refine sw_iload_2 C dX6_cuts_31 ?_
      refine sn_cS2r C vX6_has lX6_91 dX6_cuts_32 (Nat.le_of_ble_eq_true rfl) (c_X6_has hl (by have := hls x (by omega); omega) (by omega)) (by decide) (by decide) (by decide) ?_
      refine sn_if_neB C 44 dX6_cuts_35 (by decide) (fun c35 => ?_) (fun c35 => ?_)
      · refine sw_aload_0 C dX6_cuts_44 ?_
        refine sw_iload_1 C dX6_cuts_45 ?_
        refine sw_iload_2 C dX6_cuts_46 ?_
        refine sn_cV2v C vX6_turnsLink lX6_95 rfl (by decide) rfl rfl dX6_cuts_47 (Nat.le_of_ble_eq_true rfl) (c_X6_turnsLink hl (by omega) (by omega)) (by decide) (by decide) (by decide) ?_
        refine sw_aload_0 C dX6_cuts_50 ?_
        refine sn_cV0r C vX6_links lX6_99 rfl (by decide) rfl rfl dX6_cuts_51 (Nat.le_of_ble_eq_true rfl) (c_X6_links hl (show mTurn S x y 13 0 = n from (zU_j (by omega)).trans ((zU_j (by omega)).trans hn)) hz (mTurn_lt hls (by omega) (by omega))) (by decide) (by decide) (by decide) ?_
        exact sn_iret C rfl hF dX6_cuts_54 (by decide) (by decide) (by unfold mCuts; split <;> (try split) <;> (try split) <;> (try split) <;> first | rfl | omega | (simp_all; done)) (by unfold mCuts; split <;> (try split) <;> (try split) <;> (try split) <;> first | rfl | (exfalso; omega) | (exfalso; simp_all; done)) rfl rfl
      · refine sw_aload_0 C dX6_cuts_38 ?_
        refine sn_iconst C 2 (by decide) dX6_cuts_39 ?_
        refine sn_cV1r C vX6_fail lX6_72 rfl (by decide) rfl rfl dX6_cuts_40 (Nat.le_of_ble_eq_true rfl) (c_X6_fail hl) (by decide) (by decide) (by decide) ?_
        exact sn_iret C rfl hF dX6_cuts_43 (by decide) (by decide) (by unfold mCuts; split <;> (try split) <;> (try split) <;> (try split) <;> first | rfl | omega | (simp_all; done)) (by unfold mCuts; split <;> (try split) <;> (try split) <;> (try split) <;> first | rfl | (exfalso; omega) | (exfalso; simp_all; done)) rfl rfl
    · simp only [decide_eq_false_iff_not, decide_eq_true_eq] at c13
      refine sw_aload_0 C dX6_cuts_16 ?_
      refine sn_iconst C 1 (by decide) dX6_cuts_17 ?_
      refine sn_cV1r C vX6_fail lX6_72 rfl (by decide) rfl rfl dX6_cuts_18 (Nat.le_of_ble_eq_true rfl) (c_X6_fail hl) (by decide) (by decide) (by decide) ?_
      exact sn_iret C rfl hF dX6_cuts_21 (by decide) (by decide) (by unfold mCuts; split <;> (try split) <;> (try split) <;> (try split) <;> first | rfl | omega | (simp_all; done)) (by unfold mCuts; split <;> (try split) <;> (try split) <;> (try split) <;> first | rfl | (exfalso; omega) | (exfalso; simp_all; done)) rfl rfl

set_option maxRecDepth 100000 in
set_option maxHeartbeats 4000000 in
theorem c_X6_moves {l : Launch} (hl : l.stackTraces = false) {G : zG} {S : zS} {J : Int64} {E : UInt64} {n t : Nat} (hm : mNow S n t) {x y : Nat} (hx : x < 2 ^ 32) (hy : y < 2 ^ 32) : nCR l G mX6_moves 2 0 0 [.ref 12, zi x, zi y] S J E (some (zi (mMoves S n x y).1)) (mMoves S n x y).2 J E := by
  refine nCR.of hl (by decide) rfl (Nat.le_of_ble_eq_true rfl) (ls := [some (.ref 12), some (zi x), some (zi y), none]) rfl (fun X C hF hX => ?_)
  subst hX
  obtain ⟨hn, hz, ht, ht4, hls, hrs⟩ := id hm
  refine sw_aload_0 C dX6_moves_0 ?_
  refine sw_iload_1 C dX6_moves_1 ?_
  refine sn_cV1r C vX6_isEar lX6_88 rfl (by decide) rfl rfl dX6_moves_2 (Nat.le_of_ble_eq_true rfl) (c_X6_isEar hl hn (by omega) hx) (by decide) (by decide) (by decide) ?_
  refine sn_if_neB C 14 dX6_moves_5 (by decide) (fun c5 => ?_) (fun c5 => ?_)
  · simp only [decide_eq_false_iff_not, decide_eq_true_eq] at c5
    refine sw_iload_2 C dX6_moves_14 ?_
    refine sn_cS1r C vX6_isHive lX6_65 dX6_moves_15 (Nat.le_of_ble_eq_true rfl) (c_X6_isHive hl hy) (by decide) (by decide) (by decide) ?_
    refine sn_if_neB C 27 dX6_moves_18 (by decide) (fun c18 => ?_) (fun c18 => ?_)
    · simp only [decide_eq_false_iff_not, decide_eq_true_eq] at c18
      refine sw_aload_0 C dX6_moves_27 ?_
      refine sw_getR C (o' := 13) fX6_16 rfl (by decide) rfl rfl (by decide) dX6_moves_28 ?_
      refine sn_iconst C 5 (by decide) dX6_moves_31 ?_
      refine sw_iload_1 C dX6_moves_32 ?_
      refine sn_iadd C dX6_moves_33 ?_
      refine sn_iald C rfl (by decide) (by omega) (by decide) dX6_moves_34 ?_
      refine sw_istore_3 C rfl dX6_moves_35 ?_
      refine sw_iload_3 C dX6_moves_36 ?_
      refine sw_iload_2 C dX6_moves_37 ?_
      refine sn_icmp_ne C 47 (by have := (hls x (by omega)).1; omega) hy dX6_moves_38 (by decide) (fun c38 => ?_) (fun c38 => ?_)
      · refine sw_aload_0 C dX6_moves_47 ?_
        refine sw_getR C (o' := 13) fX6_16 rfl (by decide) rfl rfl (by decide) dX6_moves_48 ?_
        refine sn_iconst C 5 (by decide) dX6_moves_51 ?_
        refine sw_iload_1 C dX6_moves_52 ?_
        refine sn_iadd C dX6_moves_53 ?_
        refine sw_iload_2 C dX6_moves_54 ?_
        refine sn_iast C rfl (by decide) (by omega) (by decide) dX6_moves_55 ?_
        refine sw_iload_3 C dX6_moves_56 ?_
        exact sn_iret C rfl hF dX6_moves_57 (by decide) (by decide) (by unfold mMoves; split <;> (try split) <;> (try split) <;> (try split) <;> first | rfl | omega | (simp_all; done)) (by unfold mMoves; split <;> (try split) <;> (try split) <;> (try split) <;> first | rfl | (exfalso; omega) | (exfalso; simp_all; done)) rfl rfl
      · refine sw_aload_0 C dX6_moves_41 ?_
        refine sn_iconst C 3 (by decide) dX6_moves_42 ?_
        refine sn_cV1r C vX6_fail lX6_72 rfl (by decide) rfl rfl dX6_moves_43 (Nat.le_of_ble_eq_true rfl) (c_X6_fail hl) (by decide) (by decide) (by decide) ?_
        exact sn_iret C rfl hF dX6_moves_46 (by decide) (by decide) (by unfold mMoves; split <;> (try split) <;> (try split) <;> (try split) <;> first | rfl | omega | (simp_all; done)) (by unfold mMoves; split <;> (try split) <;> (try split) <;> (try split) <;> first | rfl | (exfalso; omega) | (exfalso; simp_all; done)) rfl rfl
    · simp only [decide_eq_false_iff_not, decide_eq_true_eq] at c18
      refine sw_aload_0 C dX6_moves_21 ?_
      refine sn_iconst C 2 (by decide) dX6_moves_22 ?_
      refine sn_cV1r C vX6_fail lX6_72 rfl (by decide) rfl rfl dX6_moves_23 (Nat.le_of_ble_eq_true rfl) (c_X6_fail hl) (by decide) (by decide) (by decide) ?_
      exact sn_iret C rfl hF dX6_moves_26 (by decide) (by decide) (by unfold mMoves; split <;> (try split) <;> (try split) <;> (try split) <;> first | rfl | omega | (simp_all; done)) (by unfold mMoves; split <;> (try split) <;> (try split) <;> (try split) <;> first | rfl | (exfalso; omega) | (exfalso; simp_all; done)) rfl rfl
  · simp only [decide_eq_false_iff_not, decide_eq_true_eq] at c5
    refine sw_aload_0 C dX6_moves_8 ?_
    refine sn_iconst C 1 (by decide) dX6_moves_9 ?_
    refine sn_cV1r C vX6_fail lX6_72 rfl (by decide) rfl rfl dX6_moves_10 (Nat.le_of_ble_eq_true rfl) (c_X6_fail hl) (by decide) (by decide) (by decide) ?_
    exact sn_iret C rfl hF dX6_moves_13 (by decide) (by decide) (by unfold mMoves; split <;> (try split) <;> (try split) <;> (try split) <;> first | rfl | omega | (simp_all; done)) (by unfold mMoves; split <;> (try split) <;> (try split) <;> (try split) <;> first | rfl | (exfalso; omega) | (exfalso; simp_all; done)) rfl rfl

set_option maxRecDepth 100000 in
set_option maxHeartbeats 4000000 in
theorem c_X6_starts {l : Launch} (hl : l.stackTraces = false) {G : zG} {S : zS} {J : Int64} {E : UInt64} {n t : Nat} (hm : mNow S n t) {x y : Nat} (hx : x < 2 ^ 32) (hy : y < 2 ^ 32) : nCR l G mX6_starts 2 0 0 [.ref 12, zi x, zi y] S J E (some (zi (mStarts S n t x y).1)) (mStarts S n t x y).2 J E := by
  refine nCR.of hl (by decide) rfl (Nat.le_of_ble_eq_true rfl) (ls := [some (.ref 12), some (zi x), some (zi y), none]) rfl (fun X C hF hX => ?_)
  subst hX
  obtain ⟨hn, hz, ht, ht4, hls, hrs⟩ := id hm
  refine sw_aload_0 C dX6_starts_0 ?_
  refine sw_iload_1 C dX6_starts_1 ?_
  refine sn_cV1r C vX6_isEar lX6_88 rfl (by decide) rfl rfl dX6_starts_2 (Nat.le_of_ble_eq_true rfl) (c_X6_isEar hl hn (by omega) hx) (by decide) (by decide) (by decide) ?_
  refine sn_if_neB C 14 dX6_starts_5 (by decide) (fun c5 => ?_) (fun c5 => ?_)
  · simp only [decide_eq_false_iff_not, decide_eq_true_eq] at c5
    refine sw_iload_2 C dX6_starts_14 ?_
    refine sn_cS1r C vX6_isDigit lX6_69 dX6_starts_15 (Nat.le_of_ble_eq_true rfl) (c_X6_isDigit hl hy) (by decide) (by decide) (by decide) ?_
    refine sn_if_neB C 27 dX6_starts_18 (by decide) (fun c18 => ?_) (fun c18 => ?_)
    · simp only [decide_eq_false_iff_not, decide_eq_true_eq] at c18
      refine sw_aload_0 C dX6_starts_27 ?_
      refine sw_getR C (o' := 13) fX6_16 rfl (by decide) rfl rfl (by decide) dX6_starts_28 ?_
      refine sn_iconst C 1 (by decide) dX6_starts_31 ?_
      refine sn_ialde C (t) ht rfl (by decide) (by omega) (by decide) dX6_starts_32 ?_
      refine sw_istore_3 C rfl dX6_starts_33 ?_
      refine sw_iload_3 C dX6_starts_34 ?_
      refine sn_iconst C 4 (by decide) dX6_starts_35 ?_
      refine sn_icmp_ne C 45 (by omega) (by decide) dX6_starts_36 (by decide) (fun c36 => ?_) (fun c36 => ?_)
      · refine sw_aload_0 C dX6_starts_45 ?_
        refine sw_getR C (o' := 13) fX6_16 rfl (by decide) rfl rfl (by decide) dX6_starts_46 ?_
        refine sw_iload_3 C dX6_starts_49 ?_
        refine sn_iconst C 0 (by decide) dX6_starts_50 ?_
        refine sn_cS2r C vX6_of lX6_61 dX6_starts_51 (Nat.le_of_ble_eq_true rfl) (c_X6_of hl) (by decide) (by decide) (by decide) ?_
        refine sw_iload_2 C dX6_starts_54 ?_
        refine sn_iast C rfl (by decide) (by omega) (by decide) dX6_starts_55 ?_
        refine sw_aload_0 C dX6_starts_56 ?_
        refine sw_getR C (o' := 13) fX6_16 rfl (by decide) rfl rfl (by decide) dX6_starts_57 ?_
        refine sw_iload_3 C dX6_starts_60 ?_
        refine sn_iconst C 1 (by decide) dX6_starts_61 ?_
        refine sn_cS2r C vX6_of lX6_61 dX6_starts_62 (Nat.le_of_ble_eq_true rfl) (c_X6_of hl) (by decide) (by decide) (by decide) ?_
        refine sn_iconst C 0 (by decide) dX6_starts_65 ?_
        refine sn_iast C rfl (by decide) (by omega) (by decide) dX6_starts_66 ?_
        refine sw_aload_0 C dX6_starts_67 ?_
        refine sw_getR C (o' := 13) fX6_16 rfl (by decide) rfl rfl (by decide) dX6_starts_68 ?_
        refine sw_iload_3 C dX6_starts_71 ?_
        refine sn_iconst C 2 (by decide) dX6_starts_72 ?_
        refine sn_cS2r C vX6_of lX6_61 dX6_starts_73 (Nat.le_of_ble_eq_true rfl) (c_X6_of hl) (by decide) (by decide) (by decide) ?_
        refine sw_iload_1 C dX6_starts_76 ?_
        refine sn_iast C rfl (by decide) (by omega) (by decide) dX6_starts_77 ?_
        refine sw_aload_0 C dX6_starts_78 ?_
        refine sw_getR C (o' := 13) fX6_16 rfl (by decide) rfl rfl (by decide) dX6_starts_79 ?_
        refine sw_iload_3 C dX6_starts_82 ?_
        refine sn_iconst C 3 (by decide) dX6_starts_83 ?_
        refine sn_cS2r C vX6_of lX6_61 dX6_starts_84 (Nat.le_of_ble_eq_true rfl) (c_X6_of hl) (by decide) (by decide) (by decide) ?_
        refine sn_iconst C 1 (by decide) dX6_starts_87 ?_
        refine sw_iload_1 C dX6_starts_88 ?_
        refine sn_ishl C (by omega) dX6_starts_89 ?_
        refine sn_iast C rfl (by decide) (by omega) (by decide) dX6_starts_90 ?_
        refine sw_aload_0 C dX6_starts_91 ?_
        refine sw_getR C (o' := 13) fX6_16 rfl (by decide) rfl rfl (by decide) dX6_starts_92 ?_
        refine sw_iload_3 C dX6_starts_95 ?_
        refine sn_iconst C 4 (by decide) dX6_starts_96 ?_
        refine sn_cS2r C vX6_of lX6_61 dX6_starts_97 (Nat.le_of_ble_eq_true rfl) (c_X6_of hl) (by decide) (by decide) (by decide) ?_
        refine sn_iconst C 0 (by decide) dX6_starts_100 ?_
        refine sn_iast C rfl (by decide) (by omega) (by decide) dX6_starts_101 ?_
        refine sw_aload_0 C dX6_starts_102 ?_
        refine sw_getR C (o' := 13) fX6_16 rfl (by decide) rfl rfl (by decide) dX6_starts_103 ?_
        refine sn_bipush C 61 (by decide) dX6_starts_106 ?_
        refine sn_bipush C 12 (by decide) dX6_starts_108 ?_
        refine sw_iload_3 C dX6_starts_110 ?_
        refine sn_imul C dX6_starts_111 ?_
        refine sn_iadd C dX6_starts_112 ?_
        refine sw_iload_1 C dX6_starts_113 ?_
        refine sn_iadd C dX6_starts_114 ?_
        refine sw_aload_0 C dX6_starts_115 ?_
        refine sw_getR C (o' := 13) fX6_16 rfl (by decide) rfl rfl (by decide) dX6_starts_116 ?_
        refine sn_iconst C 2 (by decide) dX6_starts_119 ?_
        refine sn_ialde C (S 13 2) (by rw [zU_j (by omega), zU_j (by omega), zU_j (by omega), zU_j (by omega), zU_j (by omega)]) rfl (by decide) (by omega) (by decide) dX6_starts_120 ?_
        refine sn_iast C rfl (by decide) (by omega) (by decide) dX6_starts_121 ?_
        refine sw_aload_0 C dX6_starts_122 ?_
        refine sw_getR C (o' := 13) fX6_16 rfl (by decide) rfl rfl (by decide) dX6_starts_123 ?_
        refine sn_iconst C 1 (by decide) dX6_starts_126 ?_
        refine sw_dup2 C rfl rfl dX6_starts_127 ?_
        refine sn_ialde C (t) (by rw [zU_j (by omega), zU_j (by omega), zU_j (by omega), zU_j (by omega), zU_j (by omega), zU_j (by omega)]; exact ht) rfl (by decide) (by omega) (by decide) dX6_starts_128 ?_
        refine sn_iconst C 1 (by decide) dX6_starts_129 ?_
        refine sn_iadd C dX6_starts_130 ?_
        refine sn_iast C rfl (by decide) (by omega) (by decide) dX6_starts_131 ?_
        refine sw_iload_3 C dX6_starts_132 ?_
        exact sn_iret C rfl hF dX6_starts_133 (by decide) (by decide) (by unfold mStarts; split <;> (try split) <;> (try split) <;> (try split) <;> first | rfl | omega | (simp_all; done)) (by unfold mStarts; split <;> (try split) <;> (try split) <;> (try split) <;> first | rfl | (exfalso; omega) | (exfalso; simp_all; done)) rfl rfl
      · refine sw_aload_0 C dX6_starts_39 ?_
        refine sn_iconst C 3 (by decide) dX6_starts_40 ?_
        refine sn_cV1r C vX6_fail lX6_72 rfl (by decide) rfl rfl dX6_starts_41 (Nat.le_of_ble_eq_true rfl) (c_X6_fail hl) (by decide) (by decide) (by decide) ?_
        exact sn_iret C rfl hF dX6_starts_44 (by decide) (by decide) (by unfold mStarts; split <;> (try split) <;> (try split) <;> (try split) <;> first | rfl | omega | (simp_all; done)) (by unfold mStarts; split <;> (try split) <;> (try split) <;> (try split) <;> first | rfl | (exfalso; omega) | (exfalso; simp_all; done)) rfl rfl
    · simp only [decide_eq_false_iff_not, decide_eq_true_eq] at c18
      refine sw_aload_0 C dX6_starts_21 ?_
      refine sn_iconst C 2 (by decide) dX6_starts_22 ?_
      refine sn_cV1r C vX6_fail lX6_72 rfl (by decide) rfl rfl dX6_starts_23 (Nat.le_of_ble_eq_true rfl) (c_X6_fail hl) (by decide) (by decide) (by decide) ?_
      exact sn_iret C rfl hF dX6_starts_26 (by decide) (by decide) (by unfold mStarts; split <;> (try split) <;> (try split) <;> (try split) <;> first | rfl | omega | (simp_all; done)) (by unfold mStarts; split <;> (try split) <;> (try split) <;> (try split) <;> first | rfl | (exfalso; omega) | (exfalso; simp_all; done)) rfl rfl
  · simp only [decide_eq_false_iff_not, decide_eq_true_eq] at c5
    refine sw_aload_0 C dX6_starts_8 ?_
    refine sn_iconst C 1 (by decide) dX6_starts_9 ?_
    refine sn_cV1r C vX6_fail lX6_72 rfl (by decide) rfl rfl dX6_starts_10 (Nat.le_of_ble_eq_true rfl) (c_X6_fail hl) (by decide) (by decide) (by decide) ?_
    exact sn_iret C rfl hF dX6_starts_13 (by decide) (by decide) (by unfold mStarts; split <;> (try split) <;> (try split) <;> (try split) <;> first | rfl | omega | (simp_all; done)) (by unfold mStarts; split <;> (try split) <;> (try split) <;> (try split) <;> first | rfl | (exfalso; omega) | (exfalso; simp_all; done)) rfl rfl

set_option maxRecDepth 100000 in
set_option maxHeartbeats 4000000 in
theorem c_X6_checks {l : Launch} (hl : l.stackTraces = false) {G : zG} {S : zS} {J : Int64} {E : UInt64} {n t : Nat} (hm : mNow S n t) {x y : Nat} (hx : x < 2 ^ 32) (hy : y < 2 ^ 32) : nCR l G mX6_checks 2 0 0 [.ref 12, zi x, zi y] S J E (some (zi (mChecks S n t x y).1)) (mChecks S n t x y).2 J E := by
  refine nCR.of hl (by decide) rfl (Nat.le_of_ble_eq_true rfl) (ls := [some (.ref 12), some (zi x), some (zi y)]) rfl (fun X C hF hX => ?_)
  subst hX
  obtain ⟨hn, hz, ht, ht4, hls, hrs⟩ := id hm
  refine sw_aload_0 C dX6_checks_0 ?_
  refine sw_iload_1 C dX6_checks_1 ?_
  refine sn_cV1r C vX6_isRumour lX6_115 rfl (by decide) rfl rfl dX6_checks_2 (Nat.le_of_ble_eq_true rfl) (c_X6_isRumour hl ht (by omega) hx) (by decide) (by decide) (by decide) ?_
  refine sn_if_eqB C 16 dX6_checks_5 (by decide) (fun c5 => ?_) (fun c5 => ?_)
  · simp only [decide_eq_false_iff_not, decide_eq_true_eq] at c5
    refine sw_aload_0 C dX6_checks_16 ?_
    refine sn_iconst C 1 (by decide) dX6_checks_17 ?_
    refine sn_cV1r C vX6_fail lX6_72 rfl (by decide) rfl rfl dX6_checks_18 (Nat.le_of_ble_eq_true rfl) (c_X6_fail hl) (by decide) (by decide) (by decide) ?_
    exact sn_iret C rfl hF dX6_checks_21 (by decide) (by decide) (by unfold mChecks; split <;> (try split) <;> (try split) <;> (try split) <;> first | rfl | omega | (simp_all; done)) (by unfold mChecks; split <;> (try split) <;> (try split) <;> (try split) <;> first | rfl | (exfalso; omega) | (exfalso; simp_all; done)) rfl rfl
  · simp only [decide_eq_false_iff_not, decide_eq_true_eq] at c5
    refine sw_aload_0 C dX6_checks_8 ?_
    refine sw_iload_2 C dX6_checks_9 ?_
    refine sn_cV1r C vX6_isEar lX6_88 rfl (by decide) rfl rfl dX6_checks_10 (Nat.le_of_ble_eq_true rfl) (c_X6_isEar hl hn (by omega) hy) (by decide) (by decide) (by decide) ?_
    refine sn_if_neB C 22 dX6_checks_13 (by decide) (fun c13 => ?_) (fun c13 => ?_)
    · simp only [decide_eq_false_iff_not, decide_eq_true_eq] at c13
      refine sw_aload_0 C dX6_checks_22 ?_
      refine sw_getR C (o' := 13) fX6_16 rfl (by decide) rfl rfl (by decide) dX6_checks_23 ?_
      refine sw_iload_1 C dX6_checks_26 ?_
      refine sn_iconst C 3 (by decide) dX6_checks_27 ?_
      refine sn_cS2r C vX6_of lX6_61 dX6_checks_28 (Nat.le_of_ble_eq_true rfl) (c_X6_of hl) (by decide) (by decide) (by decide) ?_
      refine sn_iald C rfl (by decide) (by omega) (by decide) dX6_checks_31 ?_
      refine sw_iload_2 C dX6_checks_32 ?_
      refine sn_cS2r C vX6_has lX6_91 dX6_checks_33 (Nat.le_of_ble_eq_true rfl) (c_X6_has hl (by have := (hrs x (by omega)).2.2.1; omega) (by omega)) (by decide) (by decide) (by decide) ?_
      refine sn_if_neB C 45 dX6_checks_36 (by decide) (fun c36 => ?_) (fun c36 => ?_)
      · refine sw_aload_0 C dX6_checks_45 ?_
        refine sw_getR C (o' := 13) fX6_16 rfl (by decide) rfl rfl (by decide) dX6_checks_46 ?_
        refine sn_bipush C 17 (by decide) dX6_checks_49 ?_
        refine sw_iload_2 C dX6_checks_51 ?_
        refine sn_iadd C dX6_checks_52 ?_
        refine sn_iald C rfl (by decide) (by omega) (by decide) dX6_checks_53 ?_
        refine sw_aload_0 C dX6_checks_54 ?_
        refine sw_getR C (o' := 13) fX6_16 rfl (by decide) rfl rfl (by decide) dX6_checks_55 ?_
        refine sw_iload_1 C dX6_checks_58 ?_
        refine sn_iconst C 0 (by decide) dX6_checks_59 ?_
        refine sn_cS2r C vX6_of lX6_61 dX6_checks_60 (Nat.le_of_ble_eq_true rfl) (c_X6_of hl) (by decide) (by decide) (by decide) ?_
        refine sn_iald C rfl (by decide) (by omega) (by decide) dX6_checks_63 ?_
        refine sn_icmp_gt C 69 (by have := (hls y (by omega)).2.1; omega) (by have := (hrs x (by omega)).1; omega) dX6_checks_64 (by decide) (fun c64 => ?_) (fun c64 => ?_)
        · refine sw_aload_0 C dX6_checks_69 ?_
          refine sw_getR C (o' := 13) fX6_16 rfl (by decide) rfl rfl (by decide) dX6_checks_70 ?_
          refine sw_iload_1 C dX6_checks_73 ?_
          refine sn_iconst C 3 (by decide) dX6_checks_74 ?_
          refine sn_cS2r C vX6_of lX6_61 dX6_checks_75 (Nat.le_of_ble_eq_true rfl) (c_X6_of hl) (by decide) (by decide) (by decide) ?_
          refine sw_dup2 C rfl rfl dX6_checks_78 ?_
          refine sn_iald C rfl (by decide) (by omega) (by decide) dX6_checks_79 ?_
          refine sn_iconst C 1 (by decide) dX6_checks_80 ?_
          refine sw_iload_2 C dX6_checks_81 ?_
          refine sn_ishl C (by omega) dX6_checks_82 ?_
          refine sn_ixor C dX6_checks_83 ?_
          refine sn_iast C rfl (by decide) (by omega) (by decide) dX6_checks_84 ?_
          refine sw_aload_0 C dX6_checks_85 ?_
          refine sw_getR C (o' := 13) fX6_16 rfl (by decide) rfl rfl (by decide) dX6_checks_86 ?_
          refine sw_iload_1 C dX6_checks_89 ?_
          refine sn_iconst C 4 (by decide) dX6_checks_90 ?_
          refine sn_cS2r C vX6_of lX6_61 dX6_checks_91 (Nat.le_of_ble_eq_true rfl) (c_X6_of hl) (by decide) (by decide) (by decide) ?_
          refine sw_dup2 C rfl rfl dX6_checks_94 ?_
          refine sn_iald C rfl (by decide) (by omega) (by decide) dX6_checks_95 ?_
          refine sn_iconst C 1 (by decide) dX6_checks_96 ?_
          refine sw_iload_2 C dX6_checks_97 ?_
          refine sn_ishl C (by omega) dX6_checks_98 ?_
          refine sn_ior C dX6_checks_99 ?_
          refine sn_iast C rfl (by decide) (by omega) (by decide) dX6_checks_100 ?_
          refine sw_aload_0 C dX6_checks_101 ?_
          refine sw_getR C (o' := 13) fX6_16 rfl (by decide) rfl rfl (by decide) dX6_checks_102 ?_
          refine sn_iconst C 4 (by decide) dX6_checks_105 ?_
          refine sw_dup2 C rfl rfl dX6_checks_106 ?_
          refine sn_iald C rfl (by decide) (by omega) (by decide) dX6_checks_107 ?_
          refine sn_iconst C 1 (by decide) dX6_checks_108 ?_
          refine sn_iadd C dX6_checks_109 ?_
          refine sn_iast C rfl (by decide) (by omega) (by decide) dX6_checks_110 ?_
          refine sn_iconst C 1 (by decide) dX6_checks_111 ?_
          exact sn_iret C rfl hF dX6_checks_112 (by decide) (by decide) (by unfold mChecks; split <;> (try split) <;> (try split) <;> (try split) <;> first | rfl | omega | (simp_all; done)) (by unfold mChecks; split <;> (try split) <;> (try split) <;> (try split) <;> first | rfl | (exfalso; omega) | (exfalso; simp_all; done)) rfl rfl
        · refine sn_iconst C 0 (by decide) dX6_checks_67 ?_
          exact sn_iret C rfl hF dX6_checks_68 (by decide) (by decide) (by unfold mChecks; split <;> (try split) <;> (try split) <;> (try split) <;> first | rfl | omega | (simp_all; done)) (by unfold mChecks; split <;> (try split) <;> (try split) <;> (try split) <;> first | rfl | (exfalso; omega) | (exfalso; simp_all; done)) rfl rfl
      · refine sw_aload_0 C dX6_checks_39 ?_
        refine sn_iconst C 2 (by decide) dX6_checks_40 ?_
        refine sn_cV1r C vX6_fail lX6_72 rfl (by decide) rfl rfl dX6_checks_41 (Nat.le_of_ble_eq_true rfl) (c_X6_fail hl) (by decide) (by decide) (by decide) ?_
        exact sn_iret C rfl hF dX6_checks_44 (by decide) (by decide) (by unfold mChecks; split <;> (try split) <;> (try split) <;> (try split) <;> first | rfl | omega | (simp_all; done)) (by unfold mChecks; split <;> (try split) <;> (try split) <;> (try split) <;> first | rfl | (exfalso; omega) | (exfalso; simp_all; done)) rfl rfl
    · simp only [decide_eq_false_iff_not, decide_eq_true_eq] at c13
      refine sw_aload_0 C dX6_checks_16 ?_
      refine sn_iconst C 1 (by decide) dX6_checks_17 ?_
      refine sn_cV1r C vX6_fail lX6_72 rfl (by decide) rfl rfl dX6_checks_18 (Nat.le_of_ble_eq_true rfl) (c_X6_fail hl) (by decide) (by decide) (by decide) ?_
      exact sn_iret C rfl hF dX6_checks_21 (by decide) (by decide) (by unfold mChecks; split <;> (try split) <;> (try split) <;> (try split) <;> first | rfl | omega | (simp_all; done)) (by unfold mChecks; split <;> (try split) <;> (try split) <;> (try split) <;> first | rfl | (exfalso; omega) | (exfalso; simp_all; done)) rfl rfl

set_option maxRecDepth 100000 in
set_option maxHeartbeats 4000000 in
theorem c_X6_denies {l : Launch} (hl : l.stackTraces = false) {G : zG} {S : zS} {J : Int64} {E : UInt64} {n t : Nat} (hm : mNow S n t) {x : Nat} (hx : x < 2 ^ 32) : nCR l G mX6_denies 2 0 0 [.ref 12, zi x] S J E (some (zi (mDenies S t x).1)) (mDenies S t x).2 J E := by
  refine nCR.of hl (by decide) rfl (Nat.le_of_ble_eq_true rfl) (ls := [some (.ref 12), some (zi x)]) rfl (fun X C hF hX => ?_)
  subst hX
  obtain ⟨hn, hz, ht, ht4, hls, hrs⟩ := id hm
  refine sw_aload_0 C dX6_denies_0 ?_
  refine sw_iload_1 C dX6_denies_1 ?_
  refine sn_cV1r C vX6_isRumour lX6_115 rfl (by decide) rfl rfl dX6_denies_2 (Nat.le_of_ble_eq_true rfl) (c_X6_isRumour hl ht (by omega) hx) (by decide) (by decide) (by decide) ?_
  refine sn_if_neB C 14 dX6_denies_5 (by decide) (fun c5 => ?_) (fun c5 => ?_)
  · simp only [decide_eq_false_iff_not, decide_eq_true_eq] at c5
    refine sw_aload_0 C dX6_denies_14 ?_
    refine sw_getR C (o' := 13) fX6_16 rfl (by decide) rfl rfl (by decide) dX6_denies_15 ?_
    refine sw_iload_1 C dX6_denies_18 ?_
    refine sn_iconst C 1 (by decide) dX6_denies_19 ?_
    refine sn_cS2r C vX6_of lX6_61 dX6_denies_20 (Nat.le_of_ble_eq_true rfl) (c_X6_of hl) (by decide) (by decide) (by decide) ?_
    refine sn_iald C rfl (by decide) (by omega) (by decide) dX6_denies_23 ?_
    refine sn_iconst C 1 (by decide) dX6_denies_24 ?_
    refine sn_icmp_ne C 34 (by have := (hrs x (by omega)).2.1; omega) (by decide) dX6_denies_25 (by decide) (fun c25 => ?_) (fun c25 => ?_)
    · refine sw_aload_0 C dX6_denies_34 ?_
      refine sw_getR C (o' := 13) fX6_16 rfl (by decide) rfl rfl (by decide) dX6_denies_35 ?_
      refine sw_iload_1 C dX6_denies_38 ?_
      refine sn_iconst C 1 (by decide) dX6_denies_39 ?_
      refine sn_cS2r C vX6_of lX6_61 dX6_denies_40 (Nat.le_of_ble_eq_true rfl) (c_X6_of hl) (by decide) (by decide) (by decide) ?_
      refine sn_iconst C 1 (by decide) dX6_denies_43 ?_
      refine sn_iast C rfl (by decide) (by omega) (by decide) dX6_denies_44 ?_
      refine sw_aload_0 C dX6_denies_45 ?_
      refine sw_getR C (o' := 13) fX6_16 rfl (by decide) rfl rfl (by decide) dX6_denies_46 ?_
      refine sw_iload_1 C dX6_denies_49 ?_
      refine sn_iconst C 3 (by decide) dX6_denies_50 ?_
      refine sn_cS2r C vX6_of lX6_61 dX6_denies_51 (Nat.le_of_ble_eq_true rfl) (c_X6_of hl) (by decide) (by decide) (by decide) ?_
      refine sn_ialde C (S 13 (41 + 5 * x + 3)) (zU_j (by omega)) rfl (by decide) (by omega) (by decide) dX6_denies_54 ?_
      refine sn_cS1r C vX6_bits lX6_85 dX6_denies_55 (Nat.le_of_ble_eq_true rfl) (c_X6_bits hl (hrs x (by omega)).2.2.1) (by decide) (by decide) (by decide) ?_
      exact sn_iret C rfl hF dX6_denies_58 (by decide) (by decide) (by unfold mDenies; split <;> (try split) <;> (try split) <;> (try split) <;> first | rfl | omega | (simp_all; done)) (by unfold mDenies; split <;> (try split) <;> (try split) <;> (try split) <;> first | rfl | (exfalso; omega) | (exfalso; simp_all; done)) rfl rfl
    · refine sw_aload_0 C dX6_denies_28 ?_
      refine sn_iconst C 2 (by decide) dX6_denies_29 ?_
      refine sn_cV1r C vX6_fail lX6_72 rfl (by decide) rfl rfl dX6_denies_30 (Nat.le_of_ble_eq_true rfl) (c_X6_fail hl) (by decide) (by decide) (by decide) ?_
      exact sn_iret C rfl hF dX6_denies_33 (by decide) (by decide) (by unfold mDenies; split <;> (try split) <;> (try split) <;> (try split) <;> first | rfl | omega | (simp_all; done)) (by unfold mDenies; split <;> (try split) <;> (try split) <;> (try split) <;> first | rfl | (exfalso; omega) | (exfalso; simp_all; done)) rfl rfl
  · simp only [decide_eq_false_iff_not, decide_eq_true_eq] at c5
    refine sw_aload_0 C dX6_denies_8 ?_
    refine sn_iconst C 1 (by decide) dX6_denies_9 ?_
    refine sn_cV1r C vX6_fail lX6_72 rfl (by decide) rfl rfl dX6_denies_10 (Nat.le_of_ble_eq_true rfl) (c_X6_fail hl) (by decide) (by decide) (by decide) ?_
    exact sn_iret C rfl hF dX6_denies_13 (by decide) (by decide) (by unfold mDenies; split <;> (try split) <;> (try split) <;> (try split) <;> first | rfl | omega | (simp_all; done)) (by unfold mDenies; split <;> (try split) <;> (try split) <;> (try split) <;> first | rfl | (exfalso; omega) | (exfalso; simp_all; done)) rfl rfl

set_option maxRecDepth 100000 in
set_option maxHeartbeats 4000000 in
theorem c_X6_answers {l : Launch} (hl : l.stackTraces = false) {G : zG} {S : zS} {J : Int64} {E : UInt64} {n t : Nat} (hm : mNow S n t) {x y : Nat} (hx : x < 2 ^ 32) (hy : y < 2 ^ 32) : nCR l G mX6_answers 2 0 0 [.ref 12, zi x, zi y] S J E (some (zi (mAnswers S t x y).1)) (mAnswers S t x y).2 J E := by
  refine nCR.of hl (by decide) rfl (Nat.le_of_ble_eq_true rfl) (ls := [some (.ref 12), some (zi x), some (zi y), none]) rfl (fun X C hF hX => ?_)
  subst hX
  obtain ⟨hn, hz, ht, ht4, hls, hrs⟩ := id hm
  refine sw_aload_0 C dX6_answers_0 ?_
  refine sw_iload_1 C dX6_answers_1 ?_
  refine sn_cV1r C vX6_isRumour lX6_115 rfl (by decide) rfl rfl dX6_answers_2 (Nat.le_of_ble_eq_true rfl) (c_X6_isRumour hl ht (by omega) hx) (by decide) (by decide) (by decide) ?_
  refine sn_if_neB C 14 dX6_answers_5 (by decide) (fun c5 => ?_) (fun c5 => ?_)
  · simp only [decide_eq_false_iff_not, decide_eq_true_eq] at c5
    refine sw_iload_2 C dX6_answers_14 ?_
    refine sn_cS1r C vX6_isDigit lX6_69 dX6_answers_15 (Nat.le_of_ble_eq_true rfl) (c_X6_isDigit hl hy) (by decide) (by decide) (by decide) ?_
    refine sn_if_neB C 27 dX6_answers_18 (by decide) (fun c18 => ?_) (fun c18 => ?_)
    · simp only [decide_eq_false_iff_not, decide_eq_true_eq] at c18
      refine sw_aload_0 C dX6_answers_27 ?_
      refine sw_getR C (o' := 13) fX6_16 rfl (by decide) rfl rfl (by decide) dX6_answers_28 ?_
      refine sw_iload_1 C dX6_answers_31 ?_
      refine sn_iconst C 0 (by decide) dX6_answers_32 ?_
      refine sn_cS2r C vX6_of lX6_61 dX6_answers_33 (Nat.le_of_ble_eq_true rfl) (c_X6_of hl) (by decide) (by decide) (by decide) ?_
      refine sn_iald C rfl (by decide) (by omega) (by decide) dX6_answers_36 ?_
      refine sw_istore_3 C rfl dX6_answers_37 ?_
      refine sw_aload_0 C dX6_answers_38 ?_
      refine sw_getR C (o' := 13) fX6_16 rfl (by decide) rfl rfl (by decide) dX6_answers_39 ?_
      refine sw_iload_1 C dX6_answers_42 ?_
      refine sn_iconst C 1 (by decide) dX6_answers_43 ?_
      refine sn_cS2r C vX6_of lX6_61 dX6_answers_44 (Nat.le_of_ble_eq_true rfl) (c_X6_of hl) (by decide) (by decide) (by decide) ?_
      refine sn_iald C rfl (by decide) (by omega) (by decide) dX6_answers_47 ?_
      refine sn_if_ne C 57 (by have := (hrs x (by omega)).2.1; omega) dX6_answers_48 (by decide) (fun c48 => ?_) (fun c48 => ?_)
      · refine sw_aload_0 C dX6_answers_57 ?_
        refine sw_getR C (o' := 13) fX6_16 rfl (by decide) rfl rfl (by decide) dX6_answers_58 ?_
        refine sw_iload_1 C dX6_answers_61 ?_
        refine sn_iconst C 1 (by decide) dX6_answers_62 ?_
        refine sn_cS2r C vX6_of lX6_61 dX6_answers_63 (Nat.le_of_ble_eq_true rfl) (c_X6_of hl) (by decide) (by decide) (by decide) ?_
        refine sn_iconst C 0 (by decide) dX6_answers_66 ?_
        refine sn_iast C rfl (by decide) (by omega) (by decide) dX6_answers_67 ?_
        refine sw_aload_0 C dX6_answers_68 ?_
        refine sw_getR C (o' := 13) fX6_16 rfl (by decide) rfl rfl (by decide) dX6_answers_69 ?_
        refine sw_iload_1 C dX6_answers_72 ?_
        refine sn_iconst C 0 (by decide) dX6_answers_73 ?_
        refine sn_cS2r C vX6_of lX6_61 dX6_answers_74 (Nat.le_of_ble_eq_true rfl) (c_X6_of hl) (by decide) (by decide) (by decide) ?_
        refine sw_iload_2 C dX6_answers_77 ?_
        refine sn_iast C rfl (by decide) (by omega) (by decide) dX6_answers_78 ?_
        refine sw_iload_3 C dX6_answers_79 ?_
        exact sn_iret C rfl hF dX6_answers_80 (by decide) (by decide) (by unfold mAnswers; split <;> (try split) <;> (try split) <;> (try split) <;> first | rfl | omega | (simp_all; done)) (by unfold mAnswers; split <;> (try split) <;> (try split) <;> (try split) <;> first | rfl | (exfalso; omega) | (exfalso; simp_all; done)) rfl rfl
      · refine sw_aload_0 C dX6_answers_51 ?_
        refine sn_iconst C 3 (by decide) dX6_answers_52 ?_
        refine sn_cV1r C vX6_fail lX6_72 rfl (by decide) rfl rfl dX6_answers_53 (Nat.le_of_ble_eq_true rfl) (c_X6_fail hl) (by decide) (by decide) (by decide) ?_
        exact sn_iret C rfl hF dX6_answers_56 (by decide) (by decide) (by unfold mAnswers; split <;> (try split) <;> (try split) <;> (try split) <;> first | rfl | omega | (simp_all; done)) (by unfold mAnswers; split <;> (try split) <;> (try split) <;> (try split) <;> first | rfl | (exfalso; omega) | (exfalso; simp_all; done)) rfl rfl
    · simp only [decide_eq_false_iff_not, decide_eq_true_eq] at c18
      refine sw_aload_0 C dX6_answers_21 ?_
      refine sn_iconst C 2 (by decide) dX6_answers_22 ?_
      refine sn_cV1r C vX6_fail lX6_72 rfl (by decide) rfl rfl dX6_answers_23 (Nat.le_of_ble_eq_true rfl) (c_X6_fail hl) (by decide) (by decide) (by decide) ?_
      exact sn_iret C rfl hF dX6_answers_26 (by decide) (by decide) (by unfold mAnswers; split <;> (try split) <;> (try split) <;> (try split) <;> first | rfl | omega | (simp_all; done)) (by unfold mAnswers; split <;> (try split) <;> (try split) <;> (try split) <;> first | rfl | (exfalso; omega) | (exfalso; simp_all; done)) rfl rfl
  · simp only [decide_eq_false_iff_not, decide_eq_true_eq] at c5
    refine sw_aload_0 C dX6_answers_8 ?_
    refine sn_iconst C 1 (by decide) dX6_answers_9 ?_
    refine sn_cV1r C vX6_fail lX6_72 rfl (by decide) rfl rfl dX6_answers_10 (Nat.le_of_ble_eq_true rfl) (c_X6_fail hl) (by decide) (by decide) (by decide) ?_
    exact sn_iret C rfl hF dX6_answers_13 (by decide) (by decide) (by unfold mAnswers; split <;> (try split) <;> (try split) <;> (try split) <;> first | rfl | omega | (simp_all; done)) (by unfold mAnswers; split <;> (try split) <;> (try split) <;> (try split) <;> first | rfl | (exfalso; omega) | (exfalso; simp_all; done)) rfl rfl
