/-- a sign written, a number written -/
def mW (S : zS) (s : Nat) : zS := zU (zU S 19 (S 12 18) s) 12 18 (S 12 18 + 1)
def mWn (S : zS) (n : Nat) : zS := if n < 10 then mW S (48 + n) else mW (mW S (48 + n / 10)) (48 + n % 10)
theorem mW_len {S : zS} {s : Nat} : mW S s 12 18 = S 12 18 + 1 := by unfold mW; rw [zU_s]
theorem mW_o {S : zS} {s a b : Nat} (h : a ≠ 19) (h2 : a ≠ 12 ∨ b ≠ 18) : mW S s a b = S a b := by
  unfold mW
  rcases h2 with h2 | h2
  · rw [zU_o h2, zU_o h]
  · rw [zU_j h2, zU_o h]
theorem mWn_len {S : zS} {n : Nat} : S 12 18 + 1 ≤ mWn S n 12 18 ∧ mWn S n 12 18 ≤ S 12 18 + 2 := by
  unfold mWn; split
  · rw [mW_len]; omega
  · rw [mW_len, mW_len]; omega
theorem mWn_1 {S : zS} {n : Nat} (h : n < 10) : mWn S n 12 18 = S 12 18 + 1 := by unfold mWn; rw [if_pos h, mW_len]
theorem mWn_o {S : zS} {n a b : Nat} (h : a ≠ 19) (h2 : a ≠ 12 ∨ b ≠ 18) : mWn S n a b = S a b := by
  unfold mWn; split
  · rw [mW_o h h2]
  · rw [mW_o h h2, mW_o h h2]

set_option maxRecDepth 100000 in
set_option maxHeartbeats 4000000 in
theorem c_X6_writes {l : Launch} (hl : l.stackTraces = false) {G : zG} {S : zS} {J : Int64} {E : UInt64} {s : Nat} (h : S 12 18 < 40) : nCR l G mX6_writes 0 0 0 [.ref 12, zi s] S J E none (mW S s) J E := by
  refine nCR.of hl (by decide) rfl (Nat.le_of_ble_eq_true rfl) (ls := [some (.ref 12), some (zi s)]) rfl (fun X C hF hX => ?_)
  subst hX
  refine sw_aload_0 C dX6_writes_0 ?_
  refine sw_getR C (o' := 19) fX6_35 rfl (by decide) rfl rfl (by decide) dX6_writes_1 ?_
  refine sw_aload_0 C dX6_writes_4 ?_
  refine sn_getI C fX6_166 rfl (by decide) rfl dX6_writes_5 ?_
  refine sw_iload_1 C dX6_writes_8 ?_
  refine sn_iast C rfl (by decide) (by omega) (by decide) dX6_writes_9 ?_
  refine sw_aload_0 C dX6_writes_10 ?_
  refine sw_dup C rfl dX6_writes_11 ?_
  refine sn_getIe C (S 12 18) (zU_o (by decide)) fX6_166 rfl (by decide) rfl dX6_writes_12 ?_
  refine sn_iconst C 1 (by decide) dX6_writes_15 ?_
  refine sn_iadd C dX6_writes_16 ?_
  refine sn_putI C fX6_166 rfl (by decide) rfl rfl dX6_writes_17 ?_
  exact sn_vret C rfl hF dX6_writes_20 (by decide) (by decide) rfl rfl rfl

set_option maxRecDepth 100000 in
set_option maxHeartbeats 4000000 in
theorem c_X6_writesNumber {l : Launch} (hl : l.stackTraces = false) {G : zG} {S : zS} {J : Int64} {E : UInt64} {x : Nat} (hx : x < 100) (h : S 12 18 + 2 ≤ 40) : nCR l G mX6_writesNumber 1 0 0 [.ref 12, zi x] S J E none (mWn S x) J E := by
  refine nCR.of hl (by decide) rfl (Nat.le_of_ble_eq_true rfl) (ls := [some (.ref 12), some (zi x), none]) rfl (fun X C hF hX => ?_)
  subst hX
  refine sn_iconst C 1 (by decide) dX6_writesNumber_0 ?_
  refine sw_istore_2 C rfl dX6_writesNumber_1 ?_
  have L2 : ∀ (kM i : Nat) (n : Nat), i ≤ 1 → ((i = 0 ∧ n = 1) ∨ (i = 1 ∧ n = 10 ∧ 10 ≤ x)) → 1 - i < kM → SN G X 0 0 2 [some (.ref 12), some (zi x), some (zi n)] [] S J E := by
    intro kM
    induction kM with
    | zero => intro i n _ _ hkM; exact absurd hkM (by omega)
    | succ kM ih2 =>
      intro i n hi hn hkM
      have hdv : x / n < 2 ^ 31 ∧ (n = 1 → x / n = x) ∧ (n = 10 → x / n = x / 10) := by
        refine ⟨Nat.lt_of_le_of_lt (Nat.div_le_self _ _) (by omega), fun h => by rw [h, Nat.div_one], fun h => by rw [h]⟩
      refine sw_iload_1 C dX6_writesNumber_2 ?_
      refine sw_iload_2 C dX6_writesNumber_3 ?_
      refine sn_idiv C (by omega) (by omega) (by omega) dX6_writesNumber_4 ?_
      refine sn_bipush C 10 (by decide) dX6_writesNumber_5 ?_
      refine sn_icmp_lt C 18 hdv.1 (by decide) dX6_writesNumber_7 (by decide) (fun c7 => ?_) (fun c7 => ?_)
      · have L18 : ∀ (kM j : Nat) (w : Nat) (q : zS), j ≤ 3 → ((j = 0 ∧ w = 10 ∧ 10 ≤ x ∧ q = S) ∨ (j ≤ 1 ∧ w = 1 ∧ x < 10 ∧ q = S) ∨ (j ≤ 1 ∧ w = 1 ∧ 10 ≤ x ∧ q = mW S (48 + x / 10)) ∨ (w = 0 ∧ q = mWn S x)) → 3 - j < kM → SN G X 0 0 18 [some (.ref 12), some (zi x), some (zi w)] [] q J E := by
          intro kM
          induction kM with
          | zero => intro j w q _ _ hkM; exact absurd hkM (by omega)
          | succ kM ih18 =>
            intro j w q hj hw hkM
            have hlen : q 12 18 < 40 ∨ w = 0 := by
              rcases hw with hw | hw | hw | hw
              · left; rw [hw.2.2.2]; omega
              · left; rw [hw.2.2.2]; omega
              · left; rw [hw.2.2.2, mW_len]; omega
              · right; exact hw.1
            have hw31 : w < 2 ^ 31 := by omega
            have hdl : x / w < 2 ^ 31 := Nat.lt_of_le_of_lt (Nat.div_le_self _ _) (by omega)
            refine sw_iload_2 C dX6_writesNumber_18 ?_
            refine sn_if_le C 43 hw31 dX6_writesNumber_19 (by decide) (fun c19 => ?_) (fun c19 => ?_)
            · exact sn_vret C rfl hF dX6_writesNumber_43 (by decide) (by decide) (by
                  rcases hw with hw | hw | hw | hw
                  · omega
                  · omega
                  · omega
                  · exact hw.2) rfl rfl
            · refine sw_aload_0 C dX6_writesNumber_22 ?_
              refine sn_bipush C 48 (by decide) dX6_writesNumber_23 ?_
              refine sw_iload_1 C dX6_writesNumber_25 ?_
              refine sw_iload_2 C dX6_writesNumber_26 ?_
              refine sn_idiv C (by omega) (by omega) (by omega) dX6_writesNumber_27 ?_
              refine sn_bipush C 10 (by decide) dX6_writesNumber_28 ?_
              refine sn_irem C (by omega) (by omega) (by omega) dX6_writesNumber_30 ?_
              refine sn_iadd C dX6_writesNumber_31 ?_
              refine sn_cV1v C vX6_writes lX6_169 rfl (by decide) rfl rfl dX6_writesNumber_32 (Nat.le_of_ble_eq_true rfl) (c_X6_writes hl (by omega)) (by decide) (by decide) (by decide) ?_
              have hw2 : (j + 1 = 0 ∧ w / 10 = 10 ∧ 10 ≤ x ∧ mW q (48 + x / w % 10) = S) ∨ (j + 1 ≤ 1 ∧ w / 10 = 1 ∧ x < 10 ∧ mW q (48 + x / w % 10) = S) ∨ (j + 1 ≤ 1 ∧ w / 10 = 1 ∧ 10 ≤ x ∧ mW q (48 + x / w % 10) = mW S (48 + x / 10)) ∨ (w / 10 = 0 ∧ mW q (48 + x / w % 10) = mWn S x) := by
                rcases hw with ⟨h1, h2, h3, h4⟩ | ⟨h1, h2, h3, h4⟩ | ⟨h1, h2, h3, h4⟩ | ⟨h1, h2⟩
                · subst h2; subst h4
                  exact Or.inr (Or.inr (Or.inl ⟨by omega, by decide, h3, by rw [show x / 10 % 10 = x / 10 from by omega]⟩))
                · subst h2; subst h4
                  exact Or.inr (Or.inr (Or.inr ⟨by decide, by unfold mWn; rw [if_pos h3, Nat.div_one, show x % 10 = x from by omega]⟩))
                · subst h2; subst h4
                  exact Or.inr (Or.inr (Or.inr ⟨by decide, by unfold mWn; rw [if_neg (by omega), Nat.div_one]⟩))
                · omega
              refine sw_iload_2 C dX6_writesNumber_35 ?_
              refine sn_bipush C 10 (by decide) dX6_writesNumber_36 ?_
              refine sn_idiv C (by omega) (by omega) (by omega) dX6_writesNumber_38 ?_
              refine sw_istore_2 C rfl dX6_writesNumber_39 ?_
              refine sw_goto C 18 dX6_writesNumber_40 (by decide) ?_
              exact ih18 (j + 1) _ _ (by omega) hw2 (by omega)
        have hw0 : (0 = 0 ∧ n = 10 ∧ 10 ≤ x ∧ S = S) ∨ (0 ≤ 1 ∧ n = 1 ∧ x < 10 ∧ S = S) ∨ (0 ≤ 1 ∧ n = 1 ∧ 10 ≤ x ∧ S = mW S (48 + x / 10)) ∨ (n = 0 ∧ S = mWn S x) := by
          rcases hn with hn | hn
          · have := hdv.2.1 hn.2; exact Or.inr (Or.inl ⟨by decide, hn.2, by omega, rfl⟩)
          · exact Or.inl ⟨rfl, hn.2.1, hn.2.2, rfl⟩
        exact L18 _ 0 _ _ (by omega) hw0 (Nat.lt_succ_self _)
      · refine sw_iload_2 C dX6_writesNumber_10 ?_
        refine sn_bipush C 10 (by decide) dX6_writesNumber_11 ?_
        refine sn_imul C dX6_writesNumber_13 ?_
        refine sw_istore_2 C rfl dX6_writesNumber_14 ?_
        refine sw_goto C 2 dX6_writesNumber_15 (by decide) ?_
        have hi0 : i = 0 ∧ n = 1 := by
          rcases hn with hn | hn
          · exact hn
          · exfalso; have := hdv.2.2 hn.2.1; omega
        have hx10 : 10 ≤ x := by have := hdv.2.1 hi0.2; omega
        exact ih2 (i + 1) _ (by omega) (Or.inr ⟨by omega, by omega, by omega⟩) (by omega)
  exact L2 _ 0 _ (by omega) (Or.inl ⟨rfl, rfl⟩) (Nat.lt_succ_self _)

def mSg (V : Nat → Nat) (r e : Nat) : Nat := if (V (41 + 5 * r + 3)).testBit e = true then 43 else if (V (41 + 5 * r + 4)).testBit e = true then 45 else 46
def mLn (S : zS) : zS := zU (zU S 12 0 0) 12 18 0
def mRR0 (S : zS) (r : Nat) : zS := mWn (mW (mWn (mW (mLn S) 114) r) 58) (S 13 (41 + 5 * r + 0))
def mRR1 (S : zS) (r : Nat) : zS := if S 13 (41 + 5 * r + 1) = 1 then mW (mRR0 S r) 120 else mRR0 S r
def mRR (S : zS) (n r : Nat) : zS := zIt (fun e q => mW q (mSg (S 13) r e)) n (mRR1 S r)
def mRHs (V : Nat → Nat) (x e : Nat) (q : zS) : zS := if V (5 + e) = x then mWn (if 0 < q 12 18 then mW q 44 else q) e else q
def mRH (S : zS) (n x : Nat) : zS := zIt (fun e q => mRHs (S 13) x e q) n (mLn S)
theorem mLn_o {S : zS} {a b : Nat} (h : a ≠ 12) : mLn S a b = S a b := by unfold mLn; rw [zU_o h, zU_o h]
theorem mLn_len {S : zS} : mLn S 12 18 = 0 := by unfold mLn; rw [zU_s]
theorem mRHs_o {V : Nat → Nat} {x e a b : Nat} {q : zS} (h : a ≠ 19) (h2 : a ≠ 12 ∨ b ≠ 18) : mRHs V x e q a b = q a b := by
  unfold mRHs; split
  · rw [mWn_o h h2]; split
    · exact mW_o h h2
    · rfl
  · rfl
theorem mRHs_len {V : Nat → Nat} {x e : Nat} {q : zS} : mRHs V x e q 12 18 ≤ q 12 18 + 3 := by
  unfold mRHs; split
  · split
    · have := (mWn_len (S := mW q 44) (n := e)).2; rw [mW_len] at this; omega
    · have := (mWn_len (S := q) (n := e)).2; omega
  · omega
theorem mRR0_o {S : zS} {r a b : Nat} (h : a ≠ 19) (h2 : a ≠ 12) : mRR0 S r a b = S a b := by
  unfold mRR0; rw [mWn_o h (Or.inl h2), mW_o h (Or.inl h2), mWn_o h (Or.inl h2), mW_o h (Or.inl h2), mLn_o h2]
theorem mRR1_o {S : zS} {r a b : Nat} (h : a ≠ 19) (h2 : a ≠ 12) : mRR1 S r a b = S a b := by
  unfold mRR1; split
  · rw [mW_o h (Or.inl h2), mRR0_o h h2]
  · exact mRR0_o h h2
theorem mRR0_len {S : zS} {r : Nat} (hr : r < 10) (hf : S 13 (41 + 5 * r + 0) < 10) : mRR0 S r 12 18 = 4 := by
  unfold mRR0; rw [mWn_1 hf, mW_len, mWn_1 hr, mW_len, mLn_len]
theorem mRR1_len {S : zS} {r : Nat} (hr : r < 10) (hf : S 13 (41 + 5 * r + 0) < 10) : mRR1 S r 12 18 ≤ 5 := by
  unfold mRR1; split
  · rw [mW_len, mRR0_len hr hf]; omega
  · rw [mRR0_len hr hf]; omega

set_option maxRecDepth 100000 in
set_option maxHeartbeats 4000000 in
theorem c1_X6_renderRumour {l : Launch} (hl : l.stackTraces = false) {G : zG} {S : zS} {J : Int64} {E : UInt64} {n t : Nat} (hm : mNow S n t) {x : Nat} (hx : x < 2 ^ 32) (hxt : ¬ x < t) : nCR l G mX6_renderRumour 7 0 0 [.ref 12, zi x] S J E (some (zi 0)) (zU S 12 0 1) J E := by
  refine nCR.of hl (by decide) rfl (Nat.le_of_ble_eq_true rfl) (ls := [some (.ref 12), some (zi x), none]) rfl (fun X C hF hX => ?_)
  subst hX
  obtain ⟨hn, hz, ht, ht4, hls, hrs⟩ := id hm
  refine sw_aload_0 C dX6_renderRumour_0 ?_
  refine sw_aload_0 C dX6_renderRumour_1 ?_
  refine sw_iload_1 C dX6_renderRumour_2 ?_
  refine sn_cV1r C vX6_isRumour lX6_115 rfl (by decide) rfl rfl dX6_renderRumour_3 (Nat.le_of_ble_eq_true rfl) (c_X6_isRumour hl ht (by omega) hx) (by decide) (by decide) (by decide) ?_
  refine sn_if_eqB C 13 dX6_renderRumour_6 (by decide) (fun c6 => ?_) (fun c6 => ?_)
  · simp only [decide_eq_false_iff_not, decide_eq_true_eq] at c6
    refine sn_iconst C 1 (by decide) dX6_renderRumour_13 ?_
    refine sn_putI C fX6_47 rfl (by decide) rfl rfl dX6_renderRumour_14 ?_
    refine sw_aload_0 C dX6_renderRumour_17 ?_
    refine sn_getIe C (_) zU_s fX6_47 rfl (by decide) rfl dX6_renderRumour_18 ?_
    refine sn_if_eq C 26 (by omega) dX6_renderRumour_21 (by decide) (fun c21 => ?_) (fun c21 => ?_)
    · omega
    · refine sn_iconst C 0 (by decide) dX6_renderRumour_24 ?_
      exact sn_iret C rfl hF dX6_renderRumour_25 (by decide) (by decide) (by first | rfl | (simp [*]; done)) rfl rfl rfl
  · simp only [decide_eq_false_iff_not, decide_eq_true_eq] at c6
    omega

set_option maxRecDepth 100000 in
set_option maxHeartbeats 4000000 in
theorem c_X6_renderRumour {l : Launch} (hl : l.stackTraces = false) {G : zG} {S : zS} {J : Int64} {E : UInt64} {n t : Nat} (hm : mNow S n t) {x : Nat} (hx : x < 2 ^ 32) (hxt0 : x < t) : nCR l G mX6_renderRumour 7 0 0 [.ref 12, zi x] S J E (some (zi (mRR S n x 12 18))) (mRR S n x) J E := by
  refine nCR.of hl (by decide) rfl (Nat.le_of_ble_eq_true rfl) (ls := [some (.ref 12), some (zi x), none]) rfl (fun X C hF hX => ?_)
  subst hX
  obtain ⟨hn, hz, ht, ht4, hls, hrs⟩ := id hm
  have hxt : x < 4 := by omega
  refine sw_aload_0 C dX6_renderRumour_0 ?_
  refine sw_aload_0 C dX6_renderRumour_1 ?_
  refine sw_iload_1 C dX6_renderRumour_2 ?_
  refine sn_cV1r C vX6_isRumour lX6_115 rfl (by decide) rfl rfl dX6_renderRumour_3 (Nat.le_of_ble_eq_true rfl) (c_X6_isRumour hl ht (by omega) hx) (by decide) (by decide) (by decide) ?_
  refine sn_if_eqB C 13 dX6_renderRumour_6 (by decide) (fun c6 => ?_) (fun c6 => ?_)
  · simp only [decide_eq_false_iff_not, decide_eq_true_eq] at c6
    omega
  · simp only [decide_eq_false_iff_not, decide_eq_true_eq] at c6
    refine sn_iconst C 0 (by decide) dX6_renderRumour_9 ?_
    refine sw_goto C 14 dX6_renderRumour_10 (by decide) ?_
    refine sn_putI C fX6_47 rfl (by decide) rfl rfl dX6_renderRumour_14 ?_
    refine sw_aload_0 C dX6_renderRumour_17 ?_
    refine sn_getIe C (_) zU_s fX6_47 rfl (by decide) rfl dX6_renderRumour_18 ?_
    refine sn_if_eq C 26 (by omega) dX6_renderRumour_21 (by decide) (fun c21 => ?_) (fun c21 => ?_)
    · refine sw_aload_0 C dX6_renderRumour_26 ?_
      refine sn_iconst C 0 (by decide) dX6_renderRumour_27 ?_
      refine sn_putI C fX6_166 rfl (by decide) rfl rfl dX6_renderRumour_28 ?_
      refine sw_aload_0 C dX6_renderRumour_31 ?_
      refine sn_bipush C 114 (by decide) dX6_renderRumour_32 ?_
      refine sn_cV1v C vX6_writes lX6_169 rfl (by decide) rfl rfl dX6_renderRumour_34 (Nat.le_of_ble_eq_true rfl) (c_X6_writes hl (by rw [show zU (zU S 12 0 0) 12 18 0 12 18 = 0 from zU_s]; decide)) (by decide) (by decide) (by decide) ?_
      refine sw_aload_0 C dX6_renderRumour_37 ?_
      refine sw_iload_1 C dX6_renderRumour_38 ?_
      refine sn_cV1v C vX6_writesNumber lX6_173 rfl (by decide) rfl rfl dX6_renderRumour_39 (Nat.le_of_ble_eq_true rfl) (c_X6_writesNumber hl (by omega) (by rw [mW_len, show zU (zU S 12 0 0) 12 18 0 12 18 = 0 from zU_s]; decide)) (by decide) (by decide) (by decide) ?_
      refine sw_aload_0 C dX6_renderRumour_42 ?_
      refine sn_bipush C 58 (by decide) dX6_renderRumour_43 ?_
      refine sn_cV1v C vX6_writes lX6_169 rfl (by decide) rfl rfl dX6_renderRumour_45 (Nat.le_of_ble_eq_true rfl) (c_X6_writes hl (by rw [mWn_1 (by omega), mW_len, show zU (zU S 12 0 0) 12 18 0 12 18 = 0 from zU_s]; decide)) (by decide) (by decide) (by decide) ?_
      have hf : S 13 (41 + 5 * x + 0) < 10 := by have := (hrs x hxt).1; omega
      have hl0 := mRR0_len (S := S) (r := x) (by omega) hf
      have hl1 := mRR1_len (S := S) (r := x) (by omega) hf
      refine sw_aload_0 C dX6_renderRumour_48 ?_
      refine sw_aload_0 C dX6_renderRumour_49 ?_
      refine sw_getR C (o' := 13) fX6_16 rfl (by decide) rfl rfl (by decide) dX6_renderRumour_50 ?_
      refine sw_iload_1 C dX6_renderRumour_53 ?_
      refine sn_iconst C 0 (by decide) dX6_renderRumour_54 ?_
      refine sn_cS2r C vX6_of lX6_61 dX6_renderRumour_55 (Nat.le_of_ble_eq_true rfl) (c_X6_of hl) (by decide) (by decide) (by decide) ?_
      refine sn_ialde C (S 13 (41 + 5 * x + 0)) (by rw [mW_o (by decide) (Or.inl (by decide)), mWn_o (by decide) (Or.inl (by decide)), mW_o (by decide) (Or.inl (by decide))]; exact mLn_o (by decide)) rfl (by decide) (by omega) (by decide) dX6_renderRumour_58 ?_
      refine sn_cV1v C vX6_writesNumber lX6_173 rfl (by decide) rfl rfl dX6_renderRumour_59 (Nat.le_of_ble_eq_true rfl) (c_X6_writesNumber hl (by omega) (by rw [mW_len, mWn_1 (by omega), mW_len, show zU (zU S 12 0 0) 12 18 0 12 18 = 0 from zU_s]; decide)) (by decide) (by decide) (by decide) ?_
      refine sw_aload_0 C dX6_renderRumour_62 ?_
      refine sw_getR C (o' := 13) fX6_16 rfl (by decide) rfl rfl (by decide) dX6_renderRumour_63 ?_
      refine sw_iload_1 C dX6_renderRumour_66 ?_
      refine sn_iconst C 1 (by decide) dX6_renderRumour_67 ?_
      refine sn_cS2r C vX6_of lX6_61 dX6_renderRumour_68 (Nat.le_of_ble_eq_true rfl) (c_X6_of hl) (by decide) (by decide) (by decide) ?_
      refine sn_ialde C (S 13 (41 + 5 * x + 1)) (mRR0_o (by decide) (by decide)) rfl (by decide) (by omega) (by decide) dX6_renderRumour_71 ?_
      refine sn_iconst C 1 (by decide) dX6_renderRumour_72 ?_
      refine sn_icmp_ne C 82 (by have := (hrs x hxt).2.1; omega) (by decide) dX6_renderRumour_73 (by decide) (fun c73 => ?_) (fun c73 => ?_)
      · refine sn_iconst C 0 (by decide) dX6_renderRumour_82 ?_
        refine sw_istore_2 C rfl dX6_renderRumour_83 ?_
        have L84 : ∀ (kM i : Nat) (q : zS), i ≤ n → ((∀ a b, a ≠ 19 → a ≠ 12 → q a b = S a b)) → (q 12 18 ≤ 5 + i) → (q = zIt (fun e q => mW q (mSg (S 13) x e)) i (mRR1 S x)) → n - i < kM → SN G X 0 0 84 [some (.ref 12), some (zi x), some (zi i)] [] q J E := by
          intro kM
          induction kM with
          | zero => intro i q _ _ _ _ hkM; exact absurd hkM (by omega)
          | succ kM ih84 =>
            intro i q hi hfr hlen hq hkM
            refine sw_iload_2 C dX6_renderRumour_84 ?_
            refine sw_aload_0 C dX6_renderRumour_85 ?_
            refine sw_getR C (o' := 13) fX6_16 rfl (by decide) rfl rfl (by decide) dX6_renderRumour_86 ?_
            refine sn_iconst C 0 (by decide) dX6_renderRumour_89 ?_
            refine sn_ialde C (n) ((hfr 13 0 (by decide) (by decide)).trans hn) rfl (by decide) (by omega) (by decide) dX6_renderRumour_90 ?_
            refine sn_icmp_ge C 150 (by omega) (by omega) dX6_renderRumour_91 (by decide) (fun c91 => ?_) (fun c91 => ?_)
            · refine sw_aload_0 C dX6_renderRumour_150 ?_
              refine sn_getI C fX6_166 rfl (by decide) rfl dX6_renderRumour_151 ?_
              exact sn_iret C rfl hF dX6_renderRumour_154 (by decide) (by decide) (by rw [hq, show i = n from by omega]; rfl) (by rw [hq, show i = n from by omega]; rfl) rfl rfl
            · refine sw_aload_0 C dX6_renderRumour_94 ?_
              refine sw_aload_0 C dX6_renderRumour_95 ?_
              refine sw_getR C (o' := 13) fX6_16 rfl (by decide) rfl rfl (by decide) dX6_renderRumour_96 ?_
              refine sw_iload_1 C dX6_renderRumour_99 ?_
              refine sn_iconst C 3 (by decide) dX6_renderRumour_100 ?_
              refine sn_cS2r C vX6_of lX6_61 dX6_renderRumour_101 (Nat.le_of_ble_eq_true rfl) (c_X6_of hl) (by decide) (by decide) (by decide) ?_
              refine sn_ialde C (S 13 (41 + 5 * x + 3)) (hfr 13 _ (by decide) (by decide)) rfl (by decide) (by omega) (by decide) dX6_renderRumour_104 ?_
              refine sw_iload_2 C dX6_renderRumour_105 ?_
              refine sn_cS2r C vX6_has lX6_91 dX6_renderRumour_106 (Nat.le_of_ble_eq_true rfl) (c_X6_has hl (by have := (hrs x hxt).2.2.1; omega) (by omega)) (by decide) (by decide) (by decide) ?_
              refine sn_if_eqB C 117 dX6_renderRumour_109 (by decide) (fun c109 => ?_) (fun c109 => ?_)
              · refine sw_aload_0 C dX6_renderRumour_117 ?_
                refine sw_getR C (o' := 13) fX6_16 rfl (by decide) rfl rfl (by decide) dX6_renderRumour_118 ?_
                refine sw_iload_1 C dX6_renderRumour_121 ?_
                refine sn_iconst C 4 (by decide) dX6_renderRumour_122 ?_
                refine sn_cS2r C vX6_of lX6_61 dX6_renderRumour_123 (Nat.le_of_ble_eq_true rfl) (c_X6_of hl) (by decide) (by decide) (by decide) ?_
                refine sn_ialde C (S 13 (41 + 5 * x + 4)) (hfr 13 _ (by decide) (by decide)) rfl (by decide) (by omega) (by decide) dX6_renderRumour_126 ?_
                refine sw_iload_2 C dX6_renderRumour_127 ?_
                refine sn_cS2r C vX6_has lX6_91 dX6_renderRumour_128 (Nat.le_of_ble_eq_true rfl) (c_X6_has hl (by have := (hrs x hxt).2.2.2; omega) (by omega)) (by decide) (by decide) (by decide) ?_
                refine sn_if_eqB C 139 dX6_renderRumour_131 (by decide) (fun c131 => ?_) (fun c131 => ?_)
                · refine sn_bipush C 46 (by decide) dX6_renderRumour_139 ?_
                  refine sn_cV1v C vX6_writes lX6_169 rfl (by decide) rfl rfl dX6_renderRumour_141 (Nat.le_of_ble_eq_true rfl) (c_X6_writes hl (by omega)) (by decide) (by decide) (by decide) ?_
                  refine sn_iinc_2 C rfl dX6_renderRumour_144 ?_
                  refine sw_goto C 84 dX6_renderRumour_147 (by decide) ?_
                  exact ih84 (i + 1) _ (by omega) (fun a b h h2 => (mW_o h (Or.inl h2)).trans (hfr a b h h2)) (by rw [mW_len]; omega) (by rw [zIt, ← hq]; unfold mSg; first | (rw [if_pos c109]; done) | (rw [if_neg (by rw [c109]; decide), if_pos c131]; done) | (rw [if_neg (by rw [c109]; decide), if_neg (by rw [c131]; decide)]; done)) (by omega)
                · refine sn_bipush C 45 (by decide) dX6_renderRumour_134 ?_
                  refine sw_goto C 141 dX6_renderRumour_136 (by decide) ?_
                  refine sn_cV1v C vX6_writes lX6_169 rfl (by decide) rfl rfl dX6_renderRumour_141 (Nat.le_of_ble_eq_true rfl) (c_X6_writes hl (by omega)) (by decide) (by decide) (by decide) ?_
                  refine sn_iinc_2 C rfl dX6_renderRumour_144 ?_
                  refine sw_goto C 84 dX6_renderRumour_147 (by decide) ?_
                  exact ih84 (i + 1) _ (by omega) (fun a b h h2 => (mW_o h (Or.inl h2)).trans (hfr a b h h2)) (by rw [mW_len]; omega) (by rw [zIt, ← hq]; unfold mSg; first | (rw [if_pos c109]; done) | (rw [if_neg (by rw [c109]; decide), if_pos c131]; done) | (rw [if_neg (by rw [c109]; decide), if_neg (by rw [c131]; decide)]; done)) (by omega)
              · refine sn_bipush C 43 (by decide) dX6_renderRumour_112 ?_
                refine sw_goto C 141 dX6_renderRumour_114 (by decide) ?_
                refine sn_cV1v C vX6_writes lX6_169 rfl (by decide) rfl rfl dX6_renderRumour_141 (Nat.le_of_ble_eq_true rfl) (c_X6_writes hl (by omega)) (by decide) (by decide) (by decide) ?_
                refine sn_iinc_2 C rfl dX6_renderRumour_144 ?_
                refine sw_goto C 84 dX6_renderRumour_147 (by decide) ?_
                exact ih84 (i + 1) _ (by omega) (fun a b h h2 => (mW_o h (Or.inl h2)).trans (hfr a b h h2)) (by rw [mW_len]; omega) (by rw [zIt, ← hq]; unfold mSg; first | (rw [if_pos c109]; done) | (rw [if_neg (by rw [c109]; decide), if_pos c131]; done) | (rw [if_neg (by rw [c109]; decide), if_neg (by rw [c131]; decide)]; done)) (by omega)
        first
          | exact L84 _ 0 _ (by omega) (fun a b h h2 => (mW_o h (Or.inl h2)).trans (mRR0_o h h2)) (by rw [mW_len, hl0]; decide) (by unfold zIt mRR1; rw [if_pos c73]; try rfl) (Nat.lt_succ_self _)
          | exact L84 _ 0 _ (by omega) (fun a b h h2 => mRR0_o h h2) (by show mRR0 S x 12 18 ≤ _; rw [hl0]; decide) (by unfold zIt mRR1; rw [if_neg c73]; try rfl) (Nat.lt_succ_self _)
      · refine sw_aload_0 C dX6_renderRumour_76 ?_
        refine sn_bipush C 120 (by decide) dX6_renderRumour_77 ?_
        refine sn_cV1v C vX6_writes lX6_169 rfl (by decide) rfl rfl dX6_renderRumour_79 (Nat.le_of_ble_eq_true rfl) (c_X6_writes hl (S := mRR0 S x) (by rw [hl0]; decide)) (by decide) (by decide) (by decide) ?_
        refine sn_iconst C 0 (by decide) dX6_renderRumour_82 ?_
        refine sw_istore_2 C rfl dX6_renderRumour_83 ?_
        have L84 : ∀ (kM i : Nat) (q : zS), i ≤ n → ((∀ a b, a ≠ 19 → a ≠ 12 → q a b = S a b)) → (q 12 18 ≤ 5 + i) → (q = zIt (fun e q => mW q (mSg (S 13) x e)) i (mRR1 S x)) → n - i < kM → SN G X 0 0 84 [some (.ref 12), some (zi x), some (zi i)] [] q J E := by
          intro kM
          induction kM with
          | zero => intro i q _ _ _ _ hkM; exact absurd hkM (by omega)
          | succ kM ih84 =>
            intro i q hi hfr hlen hq hkM
            refine sw_iload_2 C dX6_renderRumour_84 ?_
            refine sw_aload_0 C dX6_renderRumour_85 ?_
            refine sw_getR C (o' := 13) fX6_16 rfl (by decide) rfl rfl (by decide) dX6_renderRumour_86 ?_
            refine sn_iconst C 0 (by decide) dX6_renderRumour_89 ?_
            refine sn_ialde C (n) ((hfr 13 0 (by decide) (by decide)).trans hn) rfl (by decide) (by omega) (by decide) dX6_renderRumour_90 ?_
            refine sn_icmp_ge C 150 (by omega) (by omega) dX6_renderRumour_91 (by decide) (fun c91 => ?_) (fun c91 => ?_)
            · refine sw_aload_0 C dX6_renderRumour_150 ?_
              refine sn_getI C fX6_166 rfl (by decide) rfl dX6_renderRumour_151 ?_
              exact sn_iret C rfl hF dX6_renderRumour_154 (by decide) (by decide) (by rw [hq, show i = n from by omega]; rfl) (by rw [hq, show i = n from by omega]; rfl) rfl rfl
            · refine sw_aload_0 C dX6_renderRumour_94 ?_
              refine sw_aload_0 C dX6_renderRumour_95 ?_
              refine sw_getR C (o' := 13) fX6_16 rfl (by decide) rfl rfl (by decide) dX6_renderRumour_96 ?_
              refine sw_iload_1 C dX6_renderRumour_99 ?_
              refine sn_iconst C 3 (by decide) dX6_renderRumour_100 ?_
              refine sn_cS2r C vX6_of lX6_61 dX6_renderRumour_101 (Nat.le_of_ble_eq_true rfl) (c_X6_of hl) (by decide) (by decide) (by decide) ?_
              refine sn_ialde C (S 13 (41 + 5 * x + 3)) (hfr 13 _ (by decide) (by decide)) rfl (by decide) (by omega) (by decide) dX6_renderRumour_104 ?_
              refine sw_iload_2 C dX6_renderRumour_105 ?_
              refine sn_cS2r C vX6_has lX6_91 dX6_renderRumour_106 (Nat.le_of_ble_eq_true rfl) (c_X6_has hl (by have := (hrs x hxt).2.2.1; omega) (by omega)) (by decide) (by decide) (by decide) ?_
              refine sn_if_eqB C 117 dX6_renderRumour_109 (by decide) (fun c109 => ?_) (fun c109 => ?_)
              · refine sw_aload_0 C dX6_renderRumour_117 ?_
                refine sw_getR C (o' := 13) fX6_16 rfl (by decide) rfl rfl (by decide) dX6_renderRumour_118 ?_
                refine sw_iload_1 C dX6_renderRumour_121 ?_
                refine sn_iconst C 4 (by decide) dX6_renderRumour_122 ?_
                refine sn_cS2r C vX6_of lX6_61 dX6_renderRumour_123 (Nat.le_of_ble_eq_true rfl) (c_X6_of hl) (by decide) (by decide) (by decide) ?_
                refine sn_ialde C (S 13 (41 + 5 * x + 4)) (hfr 13 _ (by decide) (by decide)) rfl (by decide) (by omega) (by decide) dX6_renderRumour_126 ?_
                refine sw_iload_2 C dX6_renderRumour_127 ?_
                refine sn_cS2r C vX6_has lX6_91 dX6_renderRumour_128 (Nat.le_of_ble_eq_true rfl) (c_X6_has hl (by have := (hrs x hxt).2.2.2; omega) (by omega)) (by decide) (by decide) (by decide) ?_
                refine sn_if_eqB C 139 dX6_renderRumour_131 (by decide) (fun c131 => ?_) (fun c131 => ?_)
                · refine sn_bipush C 46 (by decide) dX6_renderRumour_139 ?_
                  refine sn_cV1v C vX6_writes lX6_169 rfl (by decide) rfl rfl dX6_renderRumour_141 (Nat.le_of_ble_eq_true rfl) (c_X6_writes hl (by omega)) (by decide) (by decide) (by decide) ?_
                  refine sn_iinc_2 C rfl dX6_renderRumour_144 ?_
                  refine sw_goto C 84 dX6_renderRumour_147 (by decide) ?_
                  exact ih84 (i + 1) _ (by omega) (fun a b h h2 => (mW_o h (Or.inl h2)).trans (hfr a b h h2)) (by rw [mW_len]; omega) (by rw [zIt, ← hq]; unfold mSg; first | (rw [if_pos c109]; done) | (rw [if_neg (by rw [c109]; decide), if_pos c131]; done) | (rw [if_neg (by rw [c109]; decide), if_neg (by rw [c131]; decide)]; done)) (by omega)
                · refine sn_bipush C 45 (by decide) dX6_renderRumour_134 ?_
                  refine sw_goto C 141 dX6_renderRumour_136 (by decide) ?_
                  refine sn_cV1v C vX6_writes lX6_169 rfl (by decide) rfl rfl dX6_renderRumour_141 (Nat.le_of_ble_eq_true rfl) (c_X6_writes hl (by omega)) (by decide) (by decide) (by decide) ?_
                  refine sn_iinc_2 C rfl dX6_renderRumour_144 ?_
                  refine sw_goto C 84 dX6_renderRumour_147 (by decide) ?_
                  exact ih84 (i + 1) _ (by omega) (fun a b h h2 => (mW_o h (Or.inl h2)).trans (hfr a b h h2)) (by rw [mW_len]; omega) (by rw [zIt, ← hq]; unfold mSg; first | (rw [if_pos c109]; done) | (rw [if_neg (by rw [c109]; decide), if_pos c131]; done) | (rw [if_neg (by rw [c109]; decide), if_neg (by rw [c131]; decide)]; done)) (by omega)
              · refine sn_bipush C 43 (by decide) dX6_renderRumour_112 ?_
                refine sw_goto C 141 dX6_renderRumour_114 (by decide) ?_
                refine sn_cV1v C vX6_writes lX6_169 rfl (by decide) rfl rfl dX6_renderRumour_141 (Nat.le_of_ble_eq_true rfl) (c_X6_writes hl (by omega)) (by decide) (by decide) (by decide) ?_
                refine sn_iinc_2 C rfl dX6_renderRumour_144 ?_
                refine sw_goto C 84 dX6_renderRumour_147 (by decide) ?_
                exact ih84 (i + 1) _ (by omega) (fun a b h h2 => (mW_o h (Or.inl h2)).trans (hfr a b h h2)) (by rw [mW_len]; omega) (by rw [zIt, ← hq]; unfold mSg; first | (rw [if_pos c109]; done) | (rw [if_neg (by rw [c109]; decide), if_pos c131]; done) | (rw [if_neg (by rw [c109]; decide), if_neg (by rw [c131]; decide)]; done)) (by omega)
        first
          | exact L84 _ 0 _ (by omega) (fun a b h h2 => (mW_o h (Or.inl h2)).trans (mRR0_o h h2)) (by rw [mW_len, hl0]; decide) (by unfold zIt mRR1; rw [if_pos c73]; try rfl) (Nat.lt_succ_self _)
          | exact L84 _ 0 _ (by omega) (fun a b h h2 => mRR0_o h h2) (by show mRR0 S x 12 18 ≤ _; rw [hl0]; decide) (by unfold zIt mRR1; rw [if_neg c73]; try rfl) (Nat.lt_succ_self _)
    · omega


set_option maxRecDepth 100000 in
set_option maxHeartbeats 4000000 in
theorem c1_X6_renderHive {l : Launch} (hl : l.stackTraces = false) {G : zG} {S : zS} {J : Int64} {E : UInt64} {n t : Nat} (hm : mNow S n t) {x : Nat} (hx : x < 2 ^ 32) (hx4 : ¬ x < 4) : nCR l G mX6_renderHive 7 0 0 [.ref 12, zi x] S J E (some (zi 0)) (zU S 12 0 1) J E := by
  refine nCR.of hl (by decide) rfl (Nat.le_of_ble_eq_true rfl) (ls := [some (.ref 12), some (zi x), none]) rfl (fun X C hF hX => ?_)
  subst hX
  obtain ⟨hn, hz, ht, ht4, hls, hrs⟩ := id hm
  refine sw_aload_0 C dX6_renderHive_0 ?_
  refine sw_iload_1 C dX6_renderHive_1 ?_
  refine sn_cS1r C vX6_isHive lX6_65 dX6_renderHive_2 (Nat.le_of_ble_eq_true rfl) (c_X6_isHive hl hx) (by decide) (by decide) (by decide) ?_
  refine sn_if_eqB C 12 dX6_renderHive_5 (by decide) (fun c5 => ?_) (fun c5 => ?_)
  · simp only [decide_eq_false_iff_not, decide_eq_true_eq] at c5
    refine sn_iconst C 1 (by decide) dX6_renderHive_12 ?_
    refine sn_putI C fX6_47 rfl (by decide) rfl rfl dX6_renderHive_13 ?_
    refine sw_aload_0 C dX6_renderHive_16 ?_
    refine sn_getIe C (_) zU_s fX6_47 rfl (by decide) rfl dX6_renderHive_17 ?_
    refine sn_if_eq C 25 (by omega) dX6_renderHive_20 (by decide) (fun c20 => ?_) (fun c20 => ?_)
    · omega
    · refine sn_iconst C 0 (by decide) dX6_renderHive_23 ?_
      exact sn_iret C rfl hF dX6_renderHive_24 (by decide) (by decide) (by first | rfl | (simp [*]; done)) rfl rfl rfl
  · simp only [decide_eq_false_iff_not, decide_eq_true_eq] at c5
    omega

set_option maxRecDepth 100000 in
set_option maxHeartbeats 4000000 in
theorem c_X6_renderHive {l : Launch} (hl : l.stackTraces = false) {G : zG} {S : zS} {J : Int64} {E : UInt64} {n t : Nat} (hm : mNow S n t) {x : Nat} (hx : x < 2 ^ 32) (hx4 : x < 4) : nCR l G mX6_renderHive 7 0 0 [.ref 12, zi x] S J E (some (zi (mRH S n x 12 18))) (mRH S n x) J E := by
  refine nCR.of hl (by decide) rfl (Nat.le_of_ble_eq_true rfl) (ls := [some (.ref 12), some (zi x), none]) rfl (fun X C hF hX => ?_)
  subst hX
  obtain ⟨hn, hz, ht, ht4, hls, hrs⟩ := id hm
  refine sw_aload_0 C dX6_renderHive_0 ?_
  refine sw_iload_1 C dX6_renderHive_1 ?_
  refine sn_cS1r C vX6_isHive lX6_65 dX6_renderHive_2 (Nat.le_of_ble_eq_true rfl) (c_X6_isHive hl hx) (by decide) (by decide) (by decide) ?_
  refine sn_if_eqB C 12 dX6_renderHive_5 (by decide) (fun c5 => ?_) (fun c5 => ?_)
  · simp only [decide_eq_false_iff_not, decide_eq_true_eq] at c5
    omega
  · simp only [decide_eq_false_iff_not, decide_eq_true_eq] at c5
    refine sn_iconst C 0 (by decide) dX6_renderHive_8 ?_
    refine sw_goto C 13 dX6_renderHive_9 (by decide) ?_
    refine sn_putI C fX6_47 rfl (by decide) rfl rfl dX6_renderHive_13 ?_
    refine sw_aload_0 C dX6_renderHive_16 ?_
    refine sn_getIe C (_) zU_s fX6_47 rfl (by decide) rfl dX6_renderHive_17 ?_
    refine sn_if_eq C 25 (by omega) dX6_renderHive_20 (by decide) (fun c20 => ?_) (fun c20 => ?_)
    · refine sw_aload_0 C dX6_renderHive_25 ?_
      refine sn_iconst C 0 (by decide) dX6_renderHive_26 ?_
      refine sn_putI C fX6_166 rfl (by decide) rfl rfl dX6_renderHive_27 ?_
      refine sn_iconst C 0 (by decide) dX6_renderHive_30 ?_
      refine sw_istore_2 C rfl dX6_renderHive_31 ?_
      have L32 : ∀ (kM i : Nat) (q : zS), i ≤ n → ((∀ a b, a ≠ 19 → a ≠ 12 → q a b = S a b)) → (q 12 18 ≤ 3 * i) → (q = zIt (fun e q => mRHs (S 13) x e q) i (mLn S)) → n - i < kM → SN G X 0 0 32 [some (.ref 12), some (zi x), some (zi i)] [] q J E := by
        intro kM
        induction kM with
        | zero => intro i q _ _ _ _ hkM; exact absurd hkM (by omega)
        | succ kM ih32 =>
          intro i q hi hfr hlen hq hkM
          have hfr2 : ∀ a b, a ≠ 19 → a ≠ 12 → mRHs (S 13) x i q a b = S a b := fun a b h h2 => (mRHs_o h (Or.inl h2)).trans (hfr a b h h2)
          have hlen2 : mRHs (S 13) x i q 12 18 ≤ 3 * (i + 1) := by have := mRHs_len (V := S 13) (x := x) (e := i) (q := q); omega
          refine sw_iload_2 C dX6_renderHive_32 ?_
          refine sw_aload_0 C dX6_renderHive_33 ?_
          refine sw_getR C (o' := 13) fX6_16 rfl (by decide) rfl rfl (by decide) dX6_renderHive_34 ?_
          refine sn_iconst C 0 (by decide) dX6_renderHive_37 ?_
          refine sn_ialde C (n) ((hfr 13 0 (by decide) (by decide)).trans hn) rfl (by decide) (by omega) (by decide) dX6_renderHive_38 ?_
          refine sn_icmp_ge C 81 (by omega) (by omega) dX6_renderHive_39 (by decide) (fun c39 => ?_) (fun c39 => ?_)
          · refine sw_aload_0 C dX6_renderHive_81 ?_
            refine sn_getI C fX6_166 rfl (by decide) rfl dX6_renderHive_82 ?_
            exact sn_iret C rfl hF dX6_renderHive_85 (by decide) (by decide) (by rw [hq, show i = n from by omega]; rfl) (by rw [hq, show i = n from by omega]; rfl) rfl rfl
          · refine sw_aload_0 C dX6_renderHive_42 ?_
            refine sw_getR C (o' := 13) fX6_16 rfl (by decide) rfl rfl (by decide) dX6_renderHive_43 ?_
            refine sn_iconst C 5 (by decide) dX6_renderHive_46 ?_
            refine sw_iload_2 C dX6_renderHive_47 ?_
            refine sn_iadd C dX6_renderHive_48 ?_
            refine sn_ialde C (S 13 (5 + i)) (hfr 13 _ (by decide) (by decide)) rfl (by decide) (by omega) (by decide) dX6_renderHive_49 ?_
            refine sw_iload_1 C dX6_renderHive_50 ?_
            refine sn_icmp_eq C 57 (by have := (hls i (by omega)).1; omega) hx dX6_renderHive_51 (by decide) (fun c51 => ?_) (fun c51 => ?_)
            · refine sw_aload_0 C dX6_renderHive_57 ?_
              refine sn_getI C fX6_166 rfl (by decide) rfl dX6_renderHive_58 ?_
              refine sn_if_le C 70 (by omega) dX6_renderHive_61 (by decide) (fun c61 => ?_) (fun c61 => ?_)
              · refine sw_aload_0 C dX6_renderHive_70 ?_
                refine sw_iload_2 C dX6_renderHive_71 ?_
                refine sn_cV1v C vX6_writesNumber lX6_173 rfl (by decide) rfl rfl dX6_renderHive_72 (Nat.le_of_ble_eq_true rfl) (c_X6_writesNumber hl (by omega) (by first | (rw [mW_len]; omega) | omega)) (by decide) (by decide) (by decide) ?_
                refine sn_iinc_2 C rfl dX6_renderHive_75 ?_
                refine sw_goto C 32 dX6_renderHive_78 (by decide) ?_
                have hb := ih32 (i + 1) (mRHs (S 13) x i q) (by omega) hfr2 hlen2 (by rw [zIt, ← hq]) (by omega)
                first
                  | (rw [show mRHs (S 13) x i q = q from by unfold mRHs; rw [if_neg c51]] at hb; exact hb)
                  | (rw [show mRHs (S 13) x i q = mWn (mW q 44) i from by unfold mRHs; rw [if_pos c51, if_pos c61]] at hb; exact hb)
                  | (rw [show mRHs (S 13) x i q = mWn q i from by unfold mRHs; rw [if_pos c51, if_neg (by omega)]] at hb; exact hb)
              · refine sw_aload_0 C dX6_renderHive_64 ?_
                refine sn_bipush C 44 (by decide) dX6_renderHive_65 ?_
                refine sn_cV1v C vX6_writes lX6_169 rfl (by decide) rfl rfl dX6_renderHive_67 (Nat.le_of_ble_eq_true rfl) (c_X6_writes hl (by omega)) (by decide) (by decide) (by decide) ?_
                refine sw_aload_0 C dX6_renderHive_70 ?_
                refine sw_iload_2 C dX6_renderHive_71 ?_
                refine sn_cV1v C vX6_writesNumber lX6_173 rfl (by decide) rfl rfl dX6_renderHive_72 (Nat.le_of_ble_eq_true rfl) (c_X6_writesNumber hl (by omega) (by first | (rw [mW_len]; omega) | omega)) (by decide) (by decide) (by decide) ?_
                refine sn_iinc_2 C rfl dX6_renderHive_75 ?_
                refine sw_goto C 32 dX6_renderHive_78 (by decide) ?_
                have hb := ih32 (i + 1) (mRHs (S 13) x i q) (by omega) hfr2 hlen2 (by rw [zIt, ← hq]) (by omega)
                first
                  | (rw [show mRHs (S 13) x i q = q from by unfold mRHs; rw [if_neg c51]] at hb; exact hb)
                  | (rw [show mRHs (S 13) x i q = mWn (mW q 44) i from by unfold mRHs; rw [if_pos c51, if_pos c61]] at hb; exact hb)
                  | (rw [show mRHs (S 13) x i q = mWn q i from by unfold mRHs; rw [if_pos c51, if_neg (by omega)]] at hb; exact hb)
            · refine sw_goto C 75 dX6_renderHive_54 (by decide) ?_
              refine sn_iinc_2 C rfl dX6_renderHive_75 ?_
              refine sw_goto C 32 dX6_renderHive_78 (by decide) ?_
              have hb := ih32 (i + 1) (mRHs (S 13) x i q) (by omega) hfr2 hlen2 (by rw [zIt, ← hq]) (by omega)
              first
                | (rw [show mRHs (S 13) x i q = q from by unfold mRHs; rw [if_neg c51]] at hb; exact hb)
                | (rw [show mRHs (S 13) x i q = mWn (mW q 44) i from by unfold mRHs; rw [if_pos c51, if_pos c61]] at hb; exact hb)
                | (rw [show mRHs (S 13) x i q = mWn q i from by unfold mRHs; rw [if_pos c51, if_neg (by omega)]] at hb; exact hb)
      exact L32 _ 0 (mLn S) (by omega) (fun a b _ h2 => mLn_o h2) (by show mLn S 12 18 ≤ _; rw [mLn_len]; decide) rfl (Nat.lt_succ_self _)
    · omega

theorem nI_i2c {v : Nat} (h : v < 65536) : ((nI v).toUInt32 % 65536).toInt32 = nI v := by
  apply Int32.toBitVec_inj.mp
  apply BitVec.eq_of_toNat_eq
  show ((BitVec.ofNat 32 v) % (65536 : BitVec 32)).toNat = (BitVec.ofNat 32 v).toNat
  rw [BitVec.toNat_umod, BitVec.toNat_ofNat]
  show v % 2 ^ 32 % 65536 = v % 2 ^ 32
  omega

set_option maxRecDepth 100000 in
set_option maxHeartbeats 4000000 in
theorem c_X6_outputAt {l : Launch} (hl : l.stackTraces = false) {G : zG} {S : zS} {J : Int64} {E : UInt64} {n t : Nat} (hm : mNow S n t) (h40 : S 12 18 ≤ 40) (hch : ∀ i, i < 40 → S 19 i < 65536) {x : Nat} (hx : x < 2 ^ 32) : nCR l G mX6_outputAt 7 0 0 [.ref 12, zi x] S J E (some (zi (if x < S 12 18 then S 19 x else 97))) (zU S 12 0 (if x < S 12 18 then 0 else 1)) J E := by
  refine nCR.of hl (by decide) rfl (Nat.le_of_ble_eq_true rfl) (ls := [some (.ref 12), some (zi x)]) rfl (fun X C hF hX => ?_)
  subst hX
  obtain ⟨hn, hz, ht, ht4, hls, hrs⟩ := id hm
  refine sw_aload_0 C dX6_outputAt_0 ?_
  refine sw_iload_1 C dX6_outputAt_1 ?_
  refine sn_iconst C 0 (by decide) dX6_outputAt_2 ?_
  refine sw_aload_0 C dX6_outputAt_3 ?_
  refine sn_getI C fX6_166 rfl (by decide) rfl dX6_outputAt_4 ?_
  refine sn_iconst C 1 (by decide) dX6_outputAt_7 ?_
  refine sw_isub C dX6_outputAt_8 ?_
  refine sn_cS3r C vX6_isIn lX6_57 dX6_outputAt_9 (Nat.le_of_ble_eq_true rfl) (c_X6_isIn hl) (by decide) (by decide) (by decide) ?_
  refine sn_if_eqB C 19 dX6_outputAt_12 (by decide) (fun c12 => ?_) (fun c12 => ?_)
  · have c12 : ¬ x < S 12 18 := by
      intro h
      rw [← zInE hx (by omega)] at h
      exact of_decide_eq_false c12 h
    refine sn_iconst C 1 (by decide) dX6_outputAt_19 ?_
    refine sn_putI C fX6_47 rfl (by decide) rfl rfl dX6_outputAt_20 ?_
    refine sw_aload_0 C dX6_outputAt_23 ?_
    refine sn_getIe C (_) zU_s fX6_47 rfl (by decide) rfl dX6_outputAt_24 ?_
    refine sn_if_ne C 40 (by omega) dX6_outputAt_27 (by decide) (fun c27 => ?_) (fun c27 => ?_)
    · refine sn_bipush C 97 (by decide) dX6_outputAt_40 ?_
      exact sn_cret C (by first | exact hch x (by omega) | decide) rfl hF dX6_outputAt_42 (by decide) (by decide) (by first | (rw [if_pos c12]; done) | (rw [if_neg c12]; done) | (exfalso; omega)) (by first | (rw [if_pos c12]; done) | (rw [if_neg c12]; done) | (exfalso; omega)) rfl rfl
    · refine sw_aload_0 C dX6_outputAt_30 ?_
      refine sw_getR C (o' := 19) fX6_35 rfl (by decide) rfl rfl (by decide) dX6_outputAt_31 ?_
      refine sw_iload_1 C dX6_outputAt_34 ?_
      refine sn_ialde C (S 19 x) (zU_o (by decide)) rfl (by decide) (by omega) (by decide) dX6_outputAt_35 ?_
      refine sw_i2c C dX6_outputAt_36 ?_
      rw [nI_i2c (hch x (by omega))]
      refine sw_goto C 42 dX6_outputAt_37 (by decide) ?_
      exact sn_cret C (by first | exact hch x (by omega) | decide) rfl hF dX6_outputAt_42 (by decide) (by decide) (by first | (rw [if_pos c12]; done) | (rw [if_neg c12]; done) | (exfalso; omega)) (by first | (rw [if_pos c12]; done) | (rw [if_neg c12]; done) | (exfalso; omega)) rfl rfl
  · have c12 : x < S 12 18 := (zInE hx (by omega)).mp (of_decide_eq_true c12)
    refine sn_iconst C 0 (by decide) dX6_outputAt_15 ?_
    refine sw_goto C 20 dX6_outputAt_16 (by decide) ?_
    refine sn_putI C fX6_47 rfl (by decide) rfl rfl dX6_outputAt_20 ?_
    refine sw_aload_0 C dX6_outputAt_23 ?_
    refine sn_getIe C (_) zU_s fX6_47 rfl (by decide) rfl dX6_outputAt_24 ?_
    refine sn_if_ne C 40 (by omega) dX6_outputAt_27 (by decide) (fun c27 => ?_) (fun c27 => ?_)
    · refine sn_bipush C 97 (by decide) dX6_outputAt_40 ?_
      exact sn_cret C (by first | exact hch x (by omega) | decide) rfl hF dX6_outputAt_42 (by decide) (by decide) (by first | (rw [if_pos c12]; done) | (rw [if_neg c12]; done) | (exfalso; omega)) (by first | (rw [if_pos c12]; done) | (rw [if_neg c12]; done) | (exfalso; omega)) rfl rfl
    · refine sw_aload_0 C dX6_outputAt_30 ?_
      refine sw_getR C (o' := 19) fX6_35 rfl (by decide) rfl rfl (by decide) dX6_outputAt_31 ?_
      refine sw_iload_1 C dX6_outputAt_34 ?_
      refine sn_ialde C (S 19 x) (zU_o (by decide)) rfl (by decide) (by omega) (by decide) dX6_outputAt_35 ?_
      refine sw_i2c C dX6_outputAt_36 ?_
      rw [nI_i2c (hch x (by omega))]
      refine sw_goto C 42 dX6_outputAt_37 (by decide) ?_
      exact sn_cret C (by first | exact hch x (by omega) | decide) rfl hF dX6_outputAt_42 (by decide) (by decide) (by first | (rw [if_pos c12]; done) | (rw [if_neg c12]; done) | (exfalso; omega)) (by first | (rw [if_pos c12]; done) | (rw [if_neg c12]; done) | (exfalso; omega)) rfl rfl

set_option maxRecDepth 100000 in
set_option maxHeartbeats 4000000 in
theorem c_X6_type {l : Launch} (hl : l.stackTraces = false) {G : zG} {S : zS} {J : Int64} {E : UInt64} {n t : Nat} (hm : mNow S n t) (h60 : S 12 15 ≤ 60) {x : Nat} (hx : x < 2 ^ 32) : nCR l G mX6_type 7 0 0 [.ref 12, zi x] S J E (some (zi (if 32 ≤ x ∧ x ≤ 126 then (if S 12 15 = 60 then 0 else S 12 15 + 1) else 0))) (if 32 ≤ x ∧ x ≤ 126 then (if S 12 15 = 60 then zU S 12 0 2 else zU (zU (zU S 12 0 0) 18 (S 12 15) x) 12 15 (S 12 15 + 1)) else zU S 12 0 1) J E := by
  refine nCR.of hl (by decide) rfl (Nat.le_of_ble_eq_true rfl) (ls := [some (.ref 12), some (zi x)]) rfl (fun X C hF hX => ?_)
  subst hX
  obtain ⟨hn, hz, ht, ht4, hls, hrs⟩ := id hm
  refine sw_aload_0 C dX6_type_0 ?_
  refine sw_iload_1 C dX6_type_1 ?_
  refine sn_bipush C 32 (by decide) dX6_type_2 ?_
  refine sn_bipush C 126 (by decide) dX6_type_4 ?_
  refine sn_cS3r C vX6_isIn lX6_57 dX6_type_6 (Nat.le_of_ble_eq_true rfl) (c_X6_isIn hl) (by decide) (by decide) (by decide) ?_
  refine sn_if_neB C 16 dX6_type_9 (by decide) (fun c9 => ?_) (fun c9 => ?_)
  · have c9 : 32 ≤ x ∧ x ≤ 126 := (zInC hx (by decide) (by decide)).mp (of_decide_eq_true c9)
    refine sw_aload_0 C dX6_type_16 ?_
    refine sn_getI C fX6_176 rfl (by decide) rfl dX6_type_17 ?_
    refine sn_bipush C 60 (by decide) dX6_type_20 ?_
    refine sn_icmp_ne C 29 (by omega) (by decide) dX6_type_22 (by decide) (fun c22 => ?_) (fun c22 => ?_)
    · refine sn_iconst C 0 (by decide) dX6_type_29 ?_
      refine sn_putI C fX6_47 rfl (by decide) rfl rfl dX6_type_30 ?_
      refine sw_aload_0 C dX6_type_33 ?_
      refine sn_getIe C (_) zU_s fX6_47 rfl (by decide) rfl dX6_type_34 ?_
      refine sn_if_eq C 42 (by omega) dX6_type_37 (by decide) (fun c37 => ?_) (fun c37 => ?_)
      · refine sw_aload_0 C dX6_type_42 ?_
        refine sw_getR C (o' := 18) fX6_32 rfl (by decide) rfl rfl (by decide) dX6_type_43 ?_
        refine sw_aload_0 C dX6_type_46 ?_
        refine sn_getIe C (S 12 15) (zU_j (by decide)) fX6_176 rfl (by decide) rfl dX6_type_47 ?_
        refine sw_iload_1 C dX6_type_50 ?_
        refine sn_iast C rfl (by decide) (by omega) (by decide) dX6_type_51 ?_
        refine sw_aload_0 C dX6_type_52 ?_
        refine sw_dup C rfl dX6_type_53 ?_
        refine sn_getIe C (S 12 15) ((zU_o (by decide)).trans (zU_j (by decide))) fX6_176 rfl (by decide) rfl dX6_type_54 ?_
        refine sn_iconst C 1 (by decide) dX6_type_57 ?_
        refine sn_iadd C dX6_type_58 ?_
        refine sn_putI C fX6_176 rfl (by decide) rfl rfl dX6_type_59 ?_
        refine sw_aload_0 C dX6_type_62 ?_
        refine sn_getIe C (_) zU_s fX6_176 rfl (by decide) rfl dX6_type_63 ?_
        exact sn_iret C rfl hF dX6_type_66 (by decide) (by decide) (by first | (rw [if_neg c9]; done) | (rw [if_pos c9, if_pos c22]; done) | (rw [if_pos c9, if_neg c22]; done) | (exfalso; omega)) (by first | (rw [if_neg c9]; done) | (rw [if_pos c9, if_pos c22]; done) | (rw [if_pos c9, if_neg c22]; done) | (exfalso; omega)) rfl rfl
      · refine sn_iconst C 0 (by decide) dX6_type_40 ?_
        exact sn_iret C rfl hF dX6_type_41 (by decide) (by decide) (by first | (rw [if_neg c9]; done) | (rw [if_pos c9, if_pos c22]; done) | (rw [if_pos c9, if_neg c22]; done) | (exfalso; omega)) (by first | (rw [if_neg c9]; done) | (rw [if_pos c9, if_pos c22]; done) | (rw [if_pos c9, if_neg c22]; done) | (exfalso; omega)) rfl rfl
    · refine sn_iconst C 2 (by decide) dX6_type_25 ?_
      refine sw_goto C 30 dX6_type_26 (by decide) ?_
      refine sn_putI C fX6_47 rfl (by decide) rfl rfl dX6_type_30 ?_
      refine sw_aload_0 C dX6_type_33 ?_
      refine sn_getIe C (_) zU_s fX6_47 rfl (by decide) rfl dX6_type_34 ?_
      refine sn_if_eq C 42 (by omega) dX6_type_37 (by decide) (fun c37 => ?_) (fun c37 => ?_)
      · refine sw_aload_0 C dX6_type_42 ?_
        refine sw_getR C (o' := 18) fX6_32 rfl (by decide) rfl rfl (by decide) dX6_type_43 ?_
        refine sw_aload_0 C dX6_type_46 ?_
        refine sn_getIe C (S 12 15) (zU_j (by decide)) fX6_176 rfl (by decide) rfl dX6_type_47 ?_
        refine sw_iload_1 C dX6_type_50 ?_
        refine sn_iast C rfl (by decide) (by omega) (by decide) dX6_type_51 ?_
        refine sw_aload_0 C dX6_type_52 ?_
        refine sw_dup C rfl dX6_type_53 ?_
        refine sn_getIe C (S 12 15) ((zU_o (by decide)).trans (zU_j (by decide))) fX6_176 rfl (by decide) rfl dX6_type_54 ?_
        refine sn_iconst C 1 (by decide) dX6_type_57 ?_
        refine sn_iadd C dX6_type_58 ?_
        refine sn_putI C fX6_176 rfl (by decide) rfl rfl dX6_type_59 ?_
        refine sw_aload_0 C dX6_type_62 ?_
        refine sn_getIe C (_) zU_s fX6_176 rfl (by decide) rfl dX6_type_63 ?_
        exact sn_iret C rfl hF dX6_type_66 (by decide) (by decide) (by first | (rw [if_neg c9]; done) | (rw [if_pos c9, if_pos c22]; done) | (rw [if_pos c9, if_neg c22]; done) | (exfalso; omega)) (by first | (rw [if_neg c9]; done) | (rw [if_pos c9, if_pos c22]; done) | (rw [if_pos c9, if_neg c22]; done) | (exfalso; omega)) rfl rfl
      · refine sn_iconst C 0 (by decide) dX6_type_40 ?_
        exact sn_iret C rfl hF dX6_type_41 (by decide) (by decide) (by first | (rw [if_neg c9]; done) | (rw [if_pos c9, if_pos c22]; done) | (rw [if_pos c9, if_neg c22]; done) | (exfalso; omega)) (by first | (rw [if_neg c9]; done) | (rw [if_pos c9, if_pos c22]; done) | (rw [if_pos c9, if_neg c22]; done) | (exfalso; omega)) rfl rfl
  · have c9 : ¬ (32 ≤ x ∧ x ≤ 126) := by
      intro h
      rw [← zInC hx (by decide) (by decide)] at h
      exact of_decide_eq_false c9 h
    refine sn_iconst C 1 (by decide) dX6_type_12 ?_
    refine sw_goto C 30 dX6_type_13 (by decide) ?_
    refine sn_putI C fX6_47 rfl (by decide) rfl rfl dX6_type_30 ?_
    refine sw_aload_0 C dX6_type_33 ?_
    refine sn_getIe C (_) zU_s fX6_47 rfl (by decide) rfl dX6_type_34 ?_
    refine sn_if_eq C 42 (by omega) dX6_type_37 (by decide) (fun c37 => ?_) (fun c37 => ?_)
    · refine sw_aload_0 C dX6_type_42 ?_
      refine sw_getR C (o' := 18) fX6_32 rfl (by decide) rfl rfl (by decide) dX6_type_43 ?_
      refine sw_aload_0 C dX6_type_46 ?_
      refine sn_getIe C (S 12 15) (zU_j (by decide)) fX6_176 rfl (by decide) rfl dX6_type_47 ?_
      refine sw_iload_1 C dX6_type_50 ?_
      refine sn_iast C rfl (by decide) (by omega) (by decide) dX6_type_51 ?_
      refine sw_aload_0 C dX6_type_52 ?_
      refine sw_dup C rfl dX6_type_53 ?_
      refine sn_getIe C (S 12 15) ((zU_o (by decide)).trans (zU_j (by decide))) fX6_176 rfl (by decide) rfl dX6_type_54 ?_
      refine sn_iconst C 1 (by decide) dX6_type_57 ?_
      refine sn_iadd C dX6_type_58 ?_
      refine sn_putI C fX6_176 rfl (by decide) rfl rfl dX6_type_59 ?_
      refine sw_aload_0 C dX6_type_62 ?_
      refine sn_getIe C (_) zU_s fX6_176 rfl (by decide) rfl dX6_type_63 ?_
      exact sn_iret C rfl hF dX6_type_66 (by decide) (by decide) (by first | (rw [if_neg c9]; done) | (rw [if_pos c9, if_pos c22]; done) | (rw [if_pos c9, if_neg c22]; done) | (exfalso; omega)) (by first | (rw [if_neg c9]; done) | (rw [if_pos c9, if_pos c22]; done) | (rw [if_pos c9, if_neg c22]; done) | (exfalso; omega)) rfl rfl
    · refine sn_iconst C 0 (by decide) dX6_type_40 ?_
      exact sn_iret C rfl hF dX6_type_41 (by decide) (by decide) (by first | (rw [if_neg c9]; done) | (rw [if_pos c9, if_pos c22]; done) | (rw [if_pos c9, if_neg c22]; done) | (exfalso; omega)) (by first | (rw [if_neg c9]; done) | (rw [if_pos c9, if_pos c22]; done) | (rw [if_pos c9, if_neg c22]; done) | (exfalso; omega)) rfl rfl

set_option maxRecDepth 100000 in
set_option maxHeartbeats 4000000 in
theorem c_X6_errorPosition {l : Launch} (hl : l.stackTraces = false) {G : zG} {S : zS} {J : Int64} {E : UInt64} {n t : Nat} (hm : mNow S n t) (he : S 12 2 < 2 ^ 32) : nCR l G mX6_errorPosition 7 0 0 [.ref 12] S J E (some (zi (if S 12 2 < 2 ^ 31 then S 12 2 else 0))) (zU S 12 0 (if S 12 2 < 2 ^ 31 then 0 else 1)) J E := by
  refine nCR.of hl (by decide) rfl (Nat.le_of_ble_eq_true rfl) (ls := [some (.ref 12)]) rfl (fun X C hF hX => ?_)
  subst hX
  obtain ⟨hn, hz, ht, ht4, hls, hrs⟩ := id hm
  refine sw_aload_0 C dX6_errorPosition_0 ?_
  refine sw_aload_0 C dX6_errorPosition_1 ?_
  refine sn_getI C fX6_7 rfl (by decide) rfl dX6_errorPosition_2 ?_
  refine sn_if_ge C 12 he dX6_errorPosition_5 (by decide) (fun c5 => ?_) (fun c5 => ?_)
  · refine sn_iconst C 0 (by decide) dX6_errorPosition_12 ?_
    refine sn_putI C fX6_47 rfl (by decide) rfl rfl dX6_errorPosition_13 ?_
    refine sw_aload_0 C dX6_errorPosition_16 ?_
    refine sn_getIe C (_) zU_s fX6_47 rfl (by decide) rfl dX6_errorPosition_17 ?_
    refine sn_if_ne C 30 (by omega) dX6_errorPosition_20 (by decide) (fun c20 => ?_) (fun c20 => ?_)
    · refine sn_iconst C 0 (by decide) dX6_errorPosition_30 ?_
      exact sn_iret C rfl hF dX6_errorPosition_31 (by decide) (by decide) (by first | (rw [if_pos (by omega)]; done) | (rw [if_neg (by omega)]; done) | (exfalso; omega)) (by first | (rw [if_pos (by omega)]; done) | (rw [if_neg (by omega)]; done) | (exfalso; omega)) rfl rfl
    · refine sw_aload_0 C dX6_errorPosition_23 ?_
      refine sn_getIe C (S 12 2) (zU_j (by decide)) fX6_7 rfl (by decide) rfl dX6_errorPosition_24 ?_
      refine sw_goto C 31 dX6_errorPosition_27 (by decide) ?_
      exact sn_iret C rfl hF dX6_errorPosition_31 (by decide) (by decide) (by first | (rw [if_pos (by omega)]; done) | (rw [if_neg (by omega)]; done) | (exfalso; omega)) (by first | (rw [if_pos (by omega)]; done) | (rw [if_neg (by omega)]; done) | (exfalso; omega)) rfl rfl
  · refine sn_iconst C 1 (by decide) dX6_errorPosition_8 ?_
    refine sw_goto C 13 dX6_errorPosition_9 (by decide) ?_
    refine sn_putI C fX6_47 rfl (by decide) rfl rfl dX6_errorPosition_13 ?_
    refine sw_aload_0 C dX6_errorPosition_16 ?_
    refine sn_getIe C (_) zU_s fX6_47 rfl (by decide) rfl dX6_errorPosition_17 ?_
    refine sn_if_ne C 30 (by omega) dX6_errorPosition_20 (by decide) (fun c20 => ?_) (fun c20 => ?_)
    · refine sn_iconst C 0 (by decide) dX6_errorPosition_30 ?_
      exact sn_iret C rfl hF dX6_errorPosition_31 (by decide) (by decide) (by first | (rw [if_pos (by omega)]; done) | (rw [if_neg (by omega)]; done) | (exfalso; omega)) (by first | (rw [if_pos (by omega)]; done) | (rw [if_neg (by omega)]; done) | (exfalso; omega)) rfl rfl
    · refine sw_aload_0 C dX6_errorPosition_23 ?_
      refine sn_getIe C (S 12 2) (zU_j (by decide)) fX6_7 rfl (by decide) rfl dX6_errorPosition_24 ?_
      refine sw_goto C 31 dX6_errorPosition_27 (by decide) ?_
      exact sn_iret C rfl hF dX6_errorPosition_31 (by decide) (by decide) (by first | (rw [if_pos (by omega)]; done) | (rw [if_neg (by omega)]; done) | (exfalso; omega)) (by first | (rw [if_pos (by omega)]; done) | (rw [if_neg (by omega)]; done) | (exfalso; omega)) rfl rfl

set_option maxRecDepth 100000 in
set_option maxHeartbeats 4000000 in
theorem c_X6_failedCommand {l : Launch} (hl : l.stackTraces = false) {G : zG} {S : zS} {J : Int64} {E : UInt64} {n t : Nat} (hm : mNow S n t) (he : S 12 3 < 2 ^ 32) : nCR l G mX6_failedCommand 7 0 0 [.ref 12] S J E (some (zi (if S 12 3 < 2 ^ 31 then S 12 3 else 0))) (zU S 12 0 (if S 12 3 < 2 ^ 31 then 0 else 1)) J E := by
  refine nCR.of hl (by decide) rfl (Nat.le_of_ble_eq_true rfl) (ls := [some (.ref 12)]) rfl (fun X C hF hX => ?_)
  subst hX
  obtain ⟨hn, hz, ht, ht4, hls, hrs⟩ := id hm
  refine sw_aload_0 C dX6_failedCommand_0 ?_
  refine sw_aload_0 C dX6_failedCommand_1 ?_
  refine sn_getI C fX6_13 rfl (by decide) rfl dX6_failedCommand_2 ?_
  refine sn_if_ge C 12 he dX6_failedCommand_5 (by decide) (fun c5 => ?_) (fun c5 => ?_)
  · refine sn_iconst C 0 (by decide) dX6_failedCommand_12 ?_
    refine sn_putI C fX6_47 rfl (by decide) rfl rfl dX6_failedCommand_13 ?_
    refine sw_aload_0 C dX6_failedCommand_16 ?_
    refine sn_getIe C (_) zU_s fX6_47 rfl (by decide) rfl dX6_failedCommand_17 ?_
    refine sn_if_ne C 30 (by omega) dX6_failedCommand_20 (by decide) (fun c20 => ?_) (fun c20 => ?_)
    · refine sn_iconst C 0 (by decide) dX6_failedCommand_30 ?_
      exact sn_iret C rfl hF dX6_failedCommand_31 (by decide) (by decide) (by first | (rw [if_pos (by omega)]; done) | (rw [if_neg (by omega)]; done) | (exfalso; omega)) (by first | (rw [if_pos (by omega)]; done) | (rw [if_neg (by omega)]; done) | (exfalso; omega)) rfl rfl
    · refine sw_aload_0 C dX6_failedCommand_23 ?_
      refine sn_getIe C (S 12 3) (zU_j (by decide)) fX6_13 rfl (by decide) rfl dX6_failedCommand_24 ?_
      refine sw_goto C 31 dX6_failedCommand_27 (by decide) ?_
      exact sn_iret C rfl hF dX6_failedCommand_31 (by decide) (by decide) (by first | (rw [if_pos (by omega)]; done) | (rw [if_neg (by omega)]; done) | (exfalso; omega)) (by first | (rw [if_pos (by omega)]; done) | (rw [if_neg (by omega)]; done) | (exfalso; omega)) rfl rfl
  · refine sn_iconst C 1 (by decide) dX6_failedCommand_8 ?_
    refine sw_goto C 13 dX6_failedCommand_9 (by decide) ?_
    refine sn_putI C fX6_47 rfl (by decide) rfl rfl dX6_failedCommand_13 ?_
    refine sw_aload_0 C dX6_failedCommand_16 ?_
    refine sn_getIe C (_) zU_s fX6_47 rfl (by decide) rfl dX6_failedCommand_17 ?_
    refine sn_if_ne C 30 (by omega) dX6_failedCommand_20 (by decide) (fun c20 => ?_) (fun c20 => ?_)
    · refine sn_iconst C 0 (by decide) dX6_failedCommand_30 ?_
      exact sn_iret C rfl hF dX6_failedCommand_31 (by decide) (by decide) (by first | (rw [if_pos (by omega)]; done) | (rw [if_neg (by omega)]; done) | (exfalso; omega)) (by first | (rw [if_pos (by omega)]; done) | (rw [if_neg (by omega)]; done) | (exfalso; omega)) rfl rfl
    · refine sw_aload_0 C dX6_failedCommand_23 ?_
      refine sn_getIe C (S 12 3) (zU_j (by decide)) fX6_13 rfl (by decide) rfl dX6_failedCommand_24 ?_
      refine sw_goto C 31 dX6_failedCommand_27 (by decide) ?_
      exact sn_iret C rfl hF dX6_failedCommand_31 (by decide) (by decide) (by first | (rw [if_pos (by omega)]; done) | (rw [if_neg (by omega)]; done) | (exfalso; omega)) (by first | (rw [if_pos (by omega)]; done) | (rw [if_neg (by omega)]; done) | (exfalso; omega)) rfl rfl

def mUn (S : zS) (c i : Nat) : zS := fun a b => if a = 13 ∧ b < i then S 17 (c * 109 + b) else S a b
theorem mUn_0 {S : zS} {c : Nat} : mUn S c 0 = S := by funext a b; simp [mUn]
theorem mUn_o {S : zS} {c i a b : Nat} (h : a ≠ 13) : mUn S c i a b = S a b := by unfold mUn; rw [if_neg (fun q => h q.1)]
theorem mUn_step {S : zS} {c i : Nat} : zU (mUn S c i) 13 i (mUn S c i 17 (c * 109 + i)) = mUn S c (i + 1) := by
  funext a b
  rw [mUn_o (by decide)]
  unfold zU mUn
  by_cases h1 : a = 13
  · subst h1
    by_cases h2 : b = i
    · subst h2; simp
    · by_cases h3 : b < i
      · rw [if_neg (by omega), if_pos ⟨rfl, h3⟩, if_pos ⟨rfl, by omega⟩]
      · rw [if_neg (by omega), if_neg (by omega), if_neg (by omega)]
  · rw [if_neg (by omega), if_neg (by omega), if_neg (by omega)]

set_option maxRecDepth 100000 in
set_option maxHeartbeats 4000000 in
theorem c_X6_undo {l : Launch} (hl : l.stackTraces = false) {G : zG} {S : zS} {J : Int64} {E : UInt64} {n t : Nat} (hm : mNow S n t) {c : Nat} (hc : S 12 1 = c) (hc8 : c ≤ 8) (h0 : ¬ c = 0) : nCR l G mX6_undo 7 0 0 [.ref 12] S J E (some (zi (c - 1))) (mUn (zU (zU S 12 0 0) 12 1 (c - 1)) (c - 1) 109) J E := by
  refine nCR.of hl (by decide) rfl (Nat.le_of_ble_eq_true rfl) (ls := [some (.ref 12), none]) rfl (fun X C hF hX => ?_)
  subst hX
  obtain ⟨hn, hz, ht, ht4, hls, hrs⟩ := id hm
  refine sw_aload_0 C dX6_undo_0 ?_
  refine sw_aload_0 C dX6_undo_1 ?_
  refine sn_getIe C (c) hc fX6_54 rfl (by decide) rfl dX6_undo_2 ?_
  refine sn_if_ne C 12 (by omega) dX6_undo_5 (by decide) (fun c5 => ?_) (fun c5 => ?_)
  · refine sn_iconst C 0 (by decide) dX6_undo_12 ?_
    refine sn_putI C fX6_47 rfl (by decide) rfl rfl dX6_undo_13 ?_
    refine sw_aload_0 C dX6_undo_16 ?_
    refine sn_getIe C (_) zU_s fX6_47 rfl (by decide) rfl dX6_undo_17 ?_
    refine sn_if_eq C 25 (by omega) dX6_undo_20 (by decide) (fun c20 => ?_) (fun c20 => ?_)
    · refine sw_aload_0 C dX6_undo_25 ?_
      refine sw_dup C rfl dX6_undo_26 ?_
      refine sn_getIe C (c) ((zU_j (by decide)).trans hc) fX6_54 rfl (by decide) rfl dX6_undo_27 ?_
      refine sn_iconst C 1 (by decide) dX6_undo_30 ?_
      refine sn_isub C (by omega) dX6_undo_31 ?_
      refine sn_putI C fX6_54 rfl (by decide) rfl rfl dX6_undo_32 ?_
      refine sn_iconst C 0 (by decide) dX6_undo_35 ?_
      refine sw_istore_1 C rfl dX6_undo_36 ?_
      have L37 : ∀ (kM i : Nat) , i ≤ 109 → 109 - i < kM → SN G X 0 0 37 [some (.ref 12), some (zi i)] [] (mUn (zU (zU S 12 0 0) 12 1 (c - 1)) (c - 1) i) J E := by
        intro kM
        induction kM with
        | zero => intro i  _  hkM; exact absurd hkM (by omega)
        | succ kM ih37 =>
          intro i  hi  hkM
          refine sw_iload_1 C dX6_undo_37 ?_
          refine sn_bipush C 109 (by decide) dX6_undo_38 ?_
          refine sn_icmp_ge C 69 (by omega) (by omega) dX6_undo_40 (by decide) (fun c40 => ?_) (fun c40 => ?_)
          · refine sw_aload_0 C dX6_undo_69 ?_
            refine sn_getIe C (c - 1) (by rw [mUn_o (by decide)]; exact zU_s) fX6_54 rfl (by decide) rfl dX6_undo_70 ?_
            exact sn_iret C rfl hF dX6_undo_73 (by decide) (by decide) (by rfl) (by rw [show i = 109 from by omega]) rfl rfl
          · refine sw_aload_0 C dX6_undo_43 ?_
            refine sw_getR C (o' := 13) fX6_16 rfl (by decide) rfl rfl (by decide) dX6_undo_44 ?_
            refine sw_iload_1 C dX6_undo_47 ?_
            refine sw_aload_0 C dX6_undo_48 ?_
            refine sw_getR C (o' := 17) fX6_29 rfl (by decide) rfl rfl (by decide) dX6_undo_49 ?_
            refine sw_aload_0 C dX6_undo_52 ?_
            refine sn_getIe C (c - 1) (by rw [mUn_o (by decide)]; exact zU_s) fX6_54 rfl (by decide) rfl dX6_undo_53 ?_
            refine sn_bipush C 109 (by decide) dX6_undo_56 ?_
            refine sn_imul C dX6_undo_58 ?_
            refine sw_iload_1 C dX6_undo_59 ?_
            refine sn_iadd C dX6_undo_60 ?_
            refine sn_iald C rfl (by decide) (by omega) (by decide) dX6_undo_61 ?_
            refine sn_iast C rfl (by decide) (by omega) (by decide) dX6_undo_62 ?_
            refine sn_iinc_1 C rfl dX6_undo_63 ?_
            refine sw_goto C 37 dX6_undo_66 (by decide) ?_
            rw [mUn_step]; exact ih37 (i + 1)  (by omega)  (by omega)
      have hb := L37 _ 0 (by omega) (Nat.lt_succ_self _)
      rw [mUn_0] at hb
      exact hb
    · omega
  · omega

set_option maxRecDepth 100000 in
set_option maxHeartbeats 4000000 in
theorem c1_X6_undo {l : Launch} (hl : l.stackTraces = false) {G : zG} {S : zS} {J : Int64} {E : UInt64} {n t : Nat} (hm : mNow S n t) {c : Nat} (hc : S 12 1 = c) (h0 : c = 0) : nCR l G mX6_undo 7 0 0 [.ref 12] S J E (some (zi 0)) (zU S 12 0 1) J E := by
  refine nCR.of hl (by decide) rfl (Nat.le_of_ble_eq_true rfl) (ls := [some (.ref 12), none]) rfl (fun X C hF hX => ?_)
  subst hX
  obtain ⟨hn, hz, ht, ht4, hls, hrs⟩ := id hm
  refine sw_aload_0 C dX6_undo_0 ?_
  refine sw_aload_0 C dX6_undo_1 ?_
  refine sn_getIe C (c) hc fX6_54 rfl (by decide) rfl dX6_undo_2 ?_
  refine sn_if_ne C 12 (by omega) dX6_undo_5 (by decide) (fun c5 => ?_) (fun c5 => ?_)
  · omega
  · refine sn_iconst C 1 (by decide) dX6_undo_8 ?_
    refine sw_goto C 13 dX6_undo_9 (by decide) ?_
    refine sn_putI C fX6_47 rfl (by decide) rfl rfl dX6_undo_13 ?_
    refine sw_aload_0 C dX6_undo_16 ?_
    refine sn_getIe C (_) zU_s fX6_47 rfl (by decide) rfl dX6_undo_17 ?_
    refine sn_if_eq C 25 (by omega) dX6_undo_20 (by decide) (fun c20 => ?_) (fun c20 => ?_)
    · omega
    · refine sn_iconst C 0 (by decide) dX6_undo_23 ?_
      exact sn_iret C rfl hF dX6_undo_24 (by decide) (by decide) (by first | rfl | (simp [*]; done)) rfl rfl rfl

set_option maxRecDepth 100000 in
set_option maxHeartbeats 4000000 in
theorem c_X6_save {l : Launch} (hl : l.stackTraces = false) {G : zG} {S : zS} {J : Int64} {E : UInt64} {n t : Nat} (hm : mNow S n t)  : nCR l G mX6_save 7 0 0 [.ref 12] S J E (some (zi n)) (zU (zCp (zU S 12 0 0) 13 15 109) 12 4 1) J E := by
  refine nCR.of hl (by decide) rfl (Nat.le_of_ble_eq_true rfl) (ls := [some (.ref 12)]) rfl (fun X C hF hX => ?_)
  subst hX
  obtain ⟨hn, hz, ht, ht4, hls, hrs⟩ := id hm
  refine sw_aload_0 C dX6_save_0 ?_
  refine sn_iconst C 0 (by decide) dX6_save_1 ?_
  refine sn_putI C fX6_47 rfl (by decide) rfl rfl dX6_save_2 ?_
  refine sw_aload_0 C dX6_save_5 ?_
  refine sw_getR C (o' := 15) fX6_23 rfl (by decide) rfl rfl (by decide) dX6_save_6 ?_
  refine sw_aload_0 C dX6_save_9 ?_
  refine sw_getR C (o' := 13) fX6_16 rfl (by decide) rfl rfl (by decide) dX6_save_10 ?_
  refine sn_cS2v C vX6_lays lX6_50 dX6_save_13 (Nat.le_of_ble_eq_true rfl) (c_X6_lays hl (o := 15) (p := 13) rfl (by decide) rfl (by decide) (by decide)) (by decide) (by decide) (by decide) ?_
  refine sw_aload_0 C dX6_save_16 ?_
  refine sn_iconst C 1 (by decide) dX6_save_17 ?_
  refine sn_putZN C (by decide) fX6_217 rfl (by decide) rfl rfl dX6_save_18 ?_
  refine sw_aload_0 C dX6_save_21 ?_
  refine sw_getR C (o' := 13) fX6_16 rfl (by decide) rfl rfl (by decide) dX6_save_22 ?_
  refine sn_iconst C 0 (by decide) dX6_save_25 ?_
  refine sn_ialde C (n) (by rw [zU_o (by decide), zCp_o (by decide), zU_o (by decide)]; exact hn) rfl (by decide) (by omega) (by decide) dX6_save_26 ?_
  exact sn_iret C rfl hF dX6_save_27 (by decide) (by decide) (by first | rfl | (simp [*]; done)) rfl rfl rfl

set_option maxRecDepth 100000 in
set_option maxHeartbeats 4000000 in
theorem c_X6_restore {l : Launch} (hl : l.stackTraces = false) {G : zG} {S : zS} {J : Int64} {E : UInt64} {n t : Nat} (hm : mNow S n t) (h4 : S 12 4 ≤ 1) (h0 : ¬ S 12 4 = 0) : nCR l G mX6_restore 7 0 0 [.ref 12] S J E (some (zi (S 15 0))) (zU (zCp (zU S 12 0 0) 15 13 109) 12 1 0) J E := by
  refine nCR.of hl (by decide) rfl (Nat.le_of_ble_eq_true rfl) (ls := [some (.ref 12)]) rfl (fun X C hF hX => ?_)
  subst hX
  obtain ⟨hn, hz, ht, ht4, hls, hrs⟩ := id hm
  refine sw_aload_0 C dX6_restore_0 ?_
  refine sw_aload_0 C dX6_restore_1 ?_
  refine sn_getI C fX6_217 rfl (by decide) rfl dX6_restore_2 ?_
  refine sn_if_eq C 12 (by omega) dX6_restore_5 (by decide) (fun c5 => ?_) (fun c5 => ?_)
  · omega
  · refine sn_iconst C 0 (by decide) dX6_restore_8 ?_
    refine sw_goto C 13 dX6_restore_9 (by decide) ?_
    refine sn_putI C fX6_47 rfl (by decide) rfl rfl dX6_restore_13 ?_
    refine sw_aload_0 C dX6_restore_16 ?_
    refine sn_getIe C (_) zU_s fX6_47 rfl (by decide) rfl dX6_restore_17 ?_
    refine sn_if_eq C 25 (by omega) dX6_restore_20 (by decide) (fun c20 => ?_) (fun c20 => ?_)
    · refine sw_aload_0 C dX6_restore_25 ?_
      refine sw_getR C (o' := 13) fX6_16 rfl (by decide) rfl rfl (by decide) dX6_restore_26 ?_
      refine sw_aload_0 C dX6_restore_29 ?_
      refine sw_getR C (o' := 15) fX6_23 rfl (by decide) rfl rfl (by decide) dX6_restore_30 ?_
      refine sn_cS2v C vX6_lays lX6_50 dX6_restore_33 (Nat.le_of_ble_eq_true rfl) (c_X6_lays hl (o := 13) (p := 15) rfl (by decide) rfl (by decide) (by decide)) (by decide) (by decide) (by decide) ?_
      refine sw_aload_0 C dX6_restore_36 ?_
      refine sn_iconst C 0 (by decide) dX6_restore_37 ?_
      refine sn_putI C fX6_54 rfl (by decide) rfl rfl dX6_restore_38 ?_
      refine sw_aload_0 C dX6_restore_41 ?_
      refine sw_getR C (o' := 13) fX6_16 rfl (by decide) rfl rfl (by decide) dX6_restore_42 ?_
      refine sn_iconst C 0 (by decide) dX6_restore_45 ?_
      refine sn_iald C rfl (by decide) (by omega) (by decide) dX6_restore_46 ?_
      exact sn_iret C rfl hF dX6_restore_47 (by decide) (by decide) (by first | rfl | (simp [*]; done)) rfl rfl rfl
    · omega

set_option maxRecDepth 100000 in
set_option maxHeartbeats 4000000 in
theorem c1_X6_restore {l : Launch} (hl : l.stackTraces = false) {G : zG} {S : zS} {J : Int64} {E : UInt64} {n t : Nat} (hm : mNow S n t) (h0 : S 12 4 = 0) : nCR l G mX6_restore 7 0 0 [.ref 12] S J E (some (zi 0)) (zU S 12 0 1) J E := by
  refine nCR.of hl (by decide) rfl (Nat.le_of_ble_eq_true rfl) (ls := [some (.ref 12)]) rfl (fun X C hF hX => ?_)
  subst hX
  obtain ⟨hn, hz, ht, ht4, hls, hrs⟩ := id hm
  refine sw_aload_0 C dX6_restore_0 ?_
  refine sw_aload_0 C dX6_restore_1 ?_
  refine sn_getI C fX6_217 rfl (by decide) rfl dX6_restore_2 ?_
  refine sn_if_eq C 12 (by omega) dX6_restore_5 (by decide) (fun c5 => ?_) (fun c5 => ?_)
  · refine sn_iconst C 1 (by decide) dX6_restore_12 ?_
    refine sn_putI C fX6_47 rfl (by decide) rfl rfl dX6_restore_13 ?_
    refine sw_aload_0 C dX6_restore_16 ?_
    refine sn_getIe C (_) zU_s fX6_47 rfl (by decide) rfl dX6_restore_17 ?_
    refine sn_if_eq C 25 (by omega) dX6_restore_20 (by decide) (fun c20 => ?_) (fun c20 => ?_)
    · omega
    · refine sn_iconst C 0 (by decide) dX6_restore_23 ?_
      exact sn_iret C rfl hF dX6_restore_24 (by decide) (by decide) (by first | rfl | (simp [*]; done)) rfl rfl rfl
  · omega
