set_option maxRecDepth 100000 in
set_option maxHeartbeats 4000000 in
theorem c_X6_tells {l : Launch} (hl : l.stackTraces = false) {G : zG} {S : zS} {J : Int64} {E : UInt64} {n t : Nat} (hm : mNow S n t) {x : Nat} (hx : x < 2 ^ 32) {k : Nat} (hk : k < 5) : nCR l G mX6_tells 3 0 0 [.ref 12, zi x, zi k] S J E (some (zi (if x < t then S 13 (41 + 5 * x + k) else 0))) (zU S 12 0 (if x < t then 0 else 1)) J E := by
  refine nCR.of hl (by decide) rfl (Nat.le_of_ble_eq_true rfl) (ls := [some (.ref 12), some (zi x), some (zi k)]) rfl (fun X C hF hX => ?_)
  subst hX
  obtain ⟨hn, hz, ht, ht4, hls, hrs⟩ := id hm
  refine sw_aload_0 C dX6_tells_0 ?_
  refine sw_aload_0 C dX6_tells_1 ?_
  refine sw_iload_1 C dX6_tells_2 ?_
  refine sn_cV1r C vX6_isRumour lX6_115 rfl (by decide) rfl rfl dX6_tells_3 (Nat.le_of_ble_eq_true rfl) (c_X6_isRumour hl ht (by omega) hx) (by decide) (by decide) (by decide) ?_
  refine sn_if_eqB C 13 dX6_tells_6 (by decide) (fun c6 => ?_) (fun c6 => ?_)
  · simp only [decide_eq_false_iff_not, decide_eq_true_eq] at c6
    refine sn_iconst C 1 (by decide) dX6_tells_13 ?_
    refine sn_putI C fX6_47 rfl (by decide) rfl rfl dX6_tells_14 ?_
    refine sw_aload_0 C dX6_tells_17 ?_
    refine sn_getIe C (_) zU_s fX6_47 rfl (by decide) rfl dX6_tells_18 ?_
    refine sn_if_ne C 37 (by omega) dX6_tells_21 (by decide) (fun c21 => ?_) (fun c21 => ?_)
    · refine sn_iconst C 0 (by decide) dX6_tells_37 ?_
      exact sn_iret C rfl hF dX6_tells_38 (by decide) (by decide) (by first | (simp [c6, zU]; done) | (exfalso; omega)) (by first | (simp [c6]; done) | (exfalso; omega)) rfl rfl
    · refine sw_aload_0 C dX6_tells_24 ?_
      refine sw_getR C (o' := 13) fX6_16 rfl (by decide) rfl rfl (by decide) dX6_tells_25 ?_
      refine sw_iload_1 C dX6_tells_28 ?_
      refine sw_iload_2 C dX6_tells_29 ?_
      refine sn_cS2r C vX6_of lX6_61 dX6_tells_30 (Nat.le_of_ble_eq_true rfl) (c_X6_of hl) (by decide) (by decide) (by decide) ?_
      refine sn_iald C rfl (by decide) (by omega) (by decide) dX6_tells_33 ?_
      refine sw_goto C 38 dX6_tells_34 (by decide) ?_
      exact sn_iret C rfl hF dX6_tells_38 (by decide) (by decide) (by first | (simp [c6, zU]; done) | (exfalso; omega)) (by first | (simp [c6]; done) | (exfalso; omega)) rfl rfl
  · simp only [decide_eq_false_iff_not, decide_eq_true_eq] at c6
    refine sn_iconst C 0 (by decide) dX6_tells_9 ?_
    refine sw_goto C 14 dX6_tells_10 (by decide) ?_
    refine sn_putI C fX6_47 rfl (by decide) rfl rfl dX6_tells_14 ?_
    refine sw_aload_0 C dX6_tells_17 ?_
    refine sn_getIe C (_) zU_s fX6_47 rfl (by decide) rfl dX6_tells_18 ?_
    refine sn_if_ne C 37 (by omega) dX6_tells_21 (by decide) (fun c21 => ?_) (fun c21 => ?_)
    · refine sn_iconst C 0 (by decide) dX6_tells_37 ?_
      exact sn_iret C rfl hF dX6_tells_38 (by decide) (by decide) (by first | (simp [c6, zU]; done) | (exfalso; omega)) (by first | (simp [c6]; done) | (exfalso; omega)) rfl rfl
    · refine sw_aload_0 C dX6_tells_24 ?_
      refine sw_getR C (o' := 13) fX6_16 rfl (by decide) rfl rfl (by decide) dX6_tells_25 ?_
      refine sw_iload_1 C dX6_tells_28 ?_
      refine sw_iload_2 C dX6_tells_29 ?_
      refine sn_cS2r C vX6_of lX6_61 dX6_tells_30 (Nat.le_of_ble_eq_true rfl) (c_X6_of hl) (by decide) (by decide) (by decide) ?_
      refine sn_iald C rfl (by decide) (by omega) (by decide) dX6_tells_33 ?_
      refine sw_goto C 38 dX6_tells_34 (by decide) ?_
      exact sn_iret C rfl hF dX6_tells_38 (by decide) (by decide) (by first | (simp [c6, zU]; done) | (exfalso; omega)) (by first | (simp [c6]; done) | (exfalso; omega)) rfl rfl

set_option maxRecDepth 100000 in
set_option maxHeartbeats 4000000 in
theorem c_X6_strength {l : Launch} (hl : l.stackTraces = false) {G : zG} {S : zS} {J : Int64} {E : UInt64} {n t : Nat} (hm : mNow S n t) {x : Nat} (hx : x < 2 ^ 32) : nCR l G mX6_strength 4 0 0 [.ref 12, zi x] S J E (some (zi (if x < t then S 13 (41 + 5 * x + 0) else 0))) (zU S 12 0 (if x < t then 0 else 1)) J E := by
  refine nCR.of hl (by decide) rfl (Nat.le_of_ble_eq_true rfl) (ls := [some (.ref 12), some (zi x)]) rfl (fun X C hF hX => ?_)
  subst hX
  obtain ⟨hn, hz, ht, ht4, hls, hrs⟩ := id hm
  refine sw_aload_0 C dX6_strength_0 ?_
  refine sw_iload_1 C dX6_strength_1 ?_
  refine sn_iconst C 0 (by decide) dX6_strength_2 ?_
  refine sn_cV2r C vX6_tells lX6_151 rfl (by decide) rfl rfl dX6_strength_3 (Nat.le_of_ble_eq_true rfl) (c_X6_tells hl hm hx (by decide)) (by decide) (by decide) (by decide) ?_
  exact sn_iret C rfl hF dX6_strength_6 (by decide) (by decide) (by first | rfl | (simp [*]; done)) rfl rfl rfl

set_option maxRecDepth 100000 in
set_option maxHeartbeats 4000000 in
theorem c_X6_starter {l : Launch} (hl : l.stackTraces = false) {G : zG} {S : zS} {J : Int64} {E : UInt64} {n t : Nat} (hm : mNow S n t) {x : Nat} (hx : x < 2 ^ 32) : nCR l G mX6_starter 4 0 0 [.ref 12, zi x] S J E (some (zi (if x < t then S 13 (41 + 5 * x + 2) else 0))) (zU S 12 0 (if x < t then 0 else 1)) J E := by
  refine nCR.of hl (by decide) rfl (Nat.le_of_ble_eq_true rfl) (ls := [some (.ref 12), some (zi x)]) rfl (fun X C hF hX => ?_)
  subst hX
  obtain ⟨hn, hz, ht, ht4, hls, hrs⟩ := id hm
  refine sw_aload_0 C dX6_starter_0 ?_
  refine sw_iload_1 C dX6_starter_1 ?_
  refine sn_iconst C 2 (by decide) dX6_starter_2 ?_
  refine sn_cV2r C vX6_tells lX6_151 rfl (by decide) rfl rfl dX6_starter_3 (Nat.le_of_ble_eq_true rfl) (c_X6_tells hl hm hx (by decide)) (by decide) (by decide) (by decide) ?_
  exact sn_iret C rfl hF dX6_starter_6 (by decide) (by decide) (by first | rfl | (simp [*]; done)) rfl rfl rfl

set_option maxRecDepth 100000 in
set_option maxHeartbeats 4000000 in
theorem c_X6_isAlive {l : Launch} (hl : l.stackTraces = false) {G : zG} {S : zS} {J : Int64} {E : UInt64} {n t : Nat} (hm : mNow S n t) {x : Nat} (hx : x < 2 ^ 32) : nCR l G mX6_isAlive 4 0 0 [.ref 12, zi x] S J E (some (zi (decide (x < t) && decide (S 13 (41 + 5 * x + 1) = 0)).toNat)) (zU S 12 0 (if x < t then 0 else 1)) J E := by
  refine nCR.of hl (by decide) rfl (Nat.le_of_ble_eq_true rfl) (ls := [some (.ref 12), some (zi x), none]) rfl (fun X C hF hX => ?_)
  subst hX
  obtain ⟨hn, hz, ht, ht4, hls, hrs⟩ := id hm
  refine sw_aload_0 C dX6_isAlive_0 ?_
  refine sw_iload_1 C dX6_isAlive_1 ?_
  refine sn_iconst C 1 (by decide) dX6_isAlive_2 ?_
  refine sn_cV2r C vX6_tells lX6_151 rfl (by decide) rfl rfl dX6_isAlive_3 (Nat.le_of_ble_eq_true rfl) (c_X6_tells hl hm hx (by decide)) (by decide) (by decide) (by decide) ?_
  refine sw_istore_2 C rfl dX6_isAlive_6 ?_
  refine sw_aload_0 C dX6_isAlive_7 ?_
  refine sn_getIe C (_) zU_s fX6_47 rfl (by decide) rfl dX6_isAlive_8 ?_
  refine sn_if_ne C 22 (by split <;> omega) dX6_isAlive_11 (by decide) (fun c11 => ?_) (fun c11 => ?_)
  · have c11 : ¬ x < t := fun h => c11 (if_pos h)
    refine sn_iconst C 0 (by decide) dX6_isAlive_22 ?_
    exact sn_zret C (v := false) rfl hF dX6_isAlive_23 (by decide) (by decide) (by first | (simp [c11, c15]; done) | (simp [c11]; done)) rfl rfl rfl
  · have c11 : x < t := Classical.byContradiction (fun h => by rw [if_neg h] at c11; exact absurd c11 (by decide))
    rw [if_pos c11]
    refine sw_iload_2 C dX6_isAlive_14 ?_
    refine sn_if_ne C 22 (by have := (hrs x (by omega)).2.1; omega) dX6_isAlive_15 (by decide) (fun c15 => ?_) (fun c15 => ?_)
    · refine sn_iconst C 0 (by decide) dX6_isAlive_22 ?_
      exact sn_zret C (v := false) rfl hF dX6_isAlive_23 (by decide) (by decide) (by first | (simp [c11, c15]; done) | (simp [c11]; done)) rfl rfl rfl
    · refine sn_iconst C 1 (by decide) dX6_isAlive_18 ?_
      refine sw_goto C 23 dX6_isAlive_19 (by decide) ?_
      exact sn_zret C (v := true) rfl hF dX6_isAlive_23 (by decide) (by decide) (by first | (simp [c11, c15]; done) | (simp [c11]; done)) rfl rfl rfl

set_option maxRecDepth 100000 in
set_option maxHeartbeats 4000000 in
theorem c_X6_isOf {l : Launch} (hl : l.stackTraces = false) {G : zG} {S : zS} {J : Int64} {E : UInt64} {n t : Nat} (hm : mNow S n t) {x y : Nat} (hx : x < 2 ^ 32) (hy : y < 2 ^ 32) {k : Nat} (hk : k = 3 ∨ k = 4) : nCR l G mX6_isOf 3 0 0 [.ref 12, zi x, zi y, zi k] S J E (some (zi (decide (x < t ∧ y < n) && (S 13 (41 + 5 * x + k)).testBit y).toNat)) (zU S 12 0 (if x < t ∧ y < n then 0 else 1)) J E := by
  refine nCR.of hl (by decide) rfl (Nat.le_of_ble_eq_true rfl) (ls := [some (.ref 12), some (zi x), some (zi y), some (zi k)]) rfl (fun X C hF hX => ?_)
  subst hX
  obtain ⟨hn, hz, ht, ht4, hls, hrs⟩ := id hm
  refine sw_aload_0 C dX6_isOf_0 ?_
  refine sw_aload_0 C dX6_isOf_1 ?_
  refine sw_iload_1 C dX6_isOf_2 ?_
  refine sn_cV1r C vX6_isRumour lX6_115 rfl (by decide) rfl rfl dX6_isOf_3 (Nat.le_of_ble_eq_true rfl) (c_X6_isRumour hl ht (by omega) hx) (by decide) (by decide) (by decide) ?_
  refine sn_if_eqB C 21 dX6_isOf_6 (by decide) (fun c6 => ?_) (fun c6 => ?_)
  · simp only [decide_eq_false_iff_not, decide_eq_true_eq] at c6
    refine sn_iconst C 1 (by decide) dX6_isOf_21 ?_
    refine sn_putI C fX6_47 rfl (by decide) rfl rfl dX6_isOf_22 ?_
    refine sw_aload_0 C dX6_isOf_25 ?_
    refine sn_getIe C (_) zU_s fX6_47 rfl (by decide) rfl dX6_isOf_26 ?_
    refine sn_if_ne C 53 (by omega) dX6_isOf_29 (by decide) (fun c29 => ?_) (fun c29 => ?_)
    · refine sn_iconst C 0 (by decide) dX6_isOf_53 ?_
      exact sn_zret C (v := false) rfl hF dX6_isOf_54 (by decide) (by decide) (by first | (simp [c6, c14, c46]; done) | (simp [c6, c14]; done) | (simp [c6]; done) | (exfalso; omega)) (by first | (simp [c6, c14]; done) | (simp [c6]; done) | (exfalso; omega)) rfl rfl
    · refine sw_aload_0 C dX6_isOf_32 ?_
      refine sw_getR C (o' := 13) fX6_16 rfl (by decide) rfl rfl (by decide) dX6_isOf_33 ?_
      refine sw_iload_1 C dX6_isOf_36 ?_
      refine sw_iload_3 C dX6_isOf_37 ?_
      refine sn_cS2r C vX6_of lX6_61 dX6_isOf_38 (Nat.le_of_ble_eq_true rfl) (c_X6_of hl) (by decide) (by decide) (by decide) ?_
      refine sn_ialde C (S 13 (41 + 5 * x + k)) (zU_o (by decide)) rfl (by decide) (by omega) (by decide) dX6_isOf_41 ?_
      refine sw_iload_2 C dX6_isOf_42 ?_
      refine sn_cS2r C vX6_has lX6_91 dX6_isOf_43 (Nat.le_of_ble_eq_true rfl) (c_X6_has hl (by have h3 := (hrs x (by omega)).2.2.1; have h4 := (hrs x (by omega)).2.2.2; rcases hk with h | h <;> subst h <;> omega) (by omega)) (by decide) (by decide) (by decide) ?_
      refine sn_if_eqB C 53 dX6_isOf_46 (by decide) (fun c46 => ?_) (fun c46 => ?_)
      · refine sn_iconst C 0 (by decide) dX6_isOf_53 ?_
        exact sn_zret C (v := false) rfl hF dX6_isOf_54 (by decide) (by decide) (by first | (simp [c6, c14, c46]; done) | (simp [c6, c14]; done) | (simp [c6]; done) | (exfalso; omega)) (by first | (simp [c6, c14]; done) | (simp [c6]; done) | (exfalso; omega)) rfl rfl
      · refine sn_iconst C 1 (by decide) dX6_isOf_49 ?_
        refine sw_goto C 54 dX6_isOf_50 (by decide) ?_
        exact sn_zret C (v := true) rfl hF dX6_isOf_54 (by decide) (by decide) (by first | (simp [c6, c14, c46]; done) | (simp [c6, c14]; done) | (simp [c6]; done) | (exfalso; omega)) (by first | (simp [c6, c14]; done) | (simp [c6]; done) | (exfalso; omega)) rfl rfl
  · simp only [decide_eq_false_iff_not, decide_eq_true_eq] at c6
    refine sw_aload_0 C dX6_isOf_9 ?_
    refine sw_iload_2 C dX6_isOf_10 ?_
    refine sn_cV1r C vX6_isEar lX6_88 rfl (by decide) rfl rfl dX6_isOf_11 (Nat.le_of_ble_eq_true rfl) (c_X6_isEar hl hn (by omega) hy) (by decide) (by decide) (by decide) ?_
    refine sn_if_eqB C 21 dX6_isOf_14 (by decide) (fun c14 => ?_) (fun c14 => ?_)
    · simp only [decide_eq_false_iff_not, decide_eq_true_eq] at c14
      refine sn_iconst C 1 (by decide) dX6_isOf_21 ?_
      refine sn_putI C fX6_47 rfl (by decide) rfl rfl dX6_isOf_22 ?_
      refine sw_aload_0 C dX6_isOf_25 ?_
      refine sn_getIe C (_) zU_s fX6_47 rfl (by decide) rfl dX6_isOf_26 ?_
      refine sn_if_ne C 53 (by omega) dX6_isOf_29 (by decide) (fun c29 => ?_) (fun c29 => ?_)
      · refine sn_iconst C 0 (by decide) dX6_isOf_53 ?_
        exact sn_zret C (v := false) rfl hF dX6_isOf_54 (by decide) (by decide) (by first | (simp [c6, c14, c46]; done) | (simp [c6, c14]; done) | (simp [c6]; done) | (exfalso; omega)) (by first | (simp [c6, c14]; done) | (simp [c6]; done) | (exfalso; omega)) rfl rfl
      · refine sw_aload_0 C dX6_isOf_32 ?_
        refine sw_getR C (o' := 13) fX6_16 rfl (by decide) rfl rfl (by decide) dX6_isOf_33 ?_
        refine sw_iload_1 C dX6_isOf_36 ?_
        refine sw_iload_3 C dX6_isOf_37 ?_
        refine sn_cS2r C vX6_of lX6_61 dX6_isOf_38 (Nat.le_of_ble_eq_true rfl) (c_X6_of hl) (by decide) (by decide) (by decide) ?_
        refine sn_ialde C (S 13 (41 + 5 * x + k)) (zU_o (by decide)) rfl (by decide) (by omega) (by decide) dX6_isOf_41 ?_
        refine sw_iload_2 C dX6_isOf_42 ?_
        refine sn_cS2r C vX6_has lX6_91 dX6_isOf_43 (Nat.le_of_ble_eq_true rfl) (c_X6_has hl (by have h3 := (hrs x (by omega)).2.2.1; have h4 := (hrs x (by omega)).2.2.2; rcases hk with h | h <;> subst h <;> omega) (by omega)) (by decide) (by decide) (by decide) ?_
        refine sn_if_eqB C 53 dX6_isOf_46 (by decide) (fun c46 => ?_) (fun c46 => ?_)
        · refine sn_iconst C 0 (by decide) dX6_isOf_53 ?_
          exact sn_zret C (v := false) rfl hF dX6_isOf_54 (by decide) (by decide) (by first | (simp [c6, c14, c46]; done) | (simp [c6, c14]; done) | (simp [c6]; done) | (exfalso; omega)) (by first | (simp [c6, c14]; done) | (simp [c6]; done) | (exfalso; omega)) rfl rfl
        · refine sn_iconst C 1 (by decide) dX6_isOf_49 ?_
          refine sw_goto C 54 dX6_isOf_50 (by decide) ?_
          exact sn_zret C (v := true) rfl hF dX6_isOf_54 (by decide) (by decide) (by first | (simp [c6, c14, c46]; done) | (simp [c6, c14]; done) | (simp [c6]; done) | (exfalso; omega)) (by first | (simp [c6, c14]; done) | (simp [c6]; done) | (exfalso; omega)) rfl rfl
    · simp only [decide_eq_false_iff_not, decide_eq_true_eq] at c14
      refine sn_iconst C 0 (by decide) dX6_isOf_17 ?_
      refine sw_goto C 22 dX6_isOf_18 (by decide) ?_
      refine sn_putI C fX6_47 rfl (by decide) rfl rfl dX6_isOf_22 ?_
      refine sw_aload_0 C dX6_isOf_25 ?_
      refine sn_getIe C (_) zU_s fX6_47 rfl (by decide) rfl dX6_isOf_26 ?_
      refine sn_if_ne C 53 (by omega) dX6_isOf_29 (by decide) (fun c29 => ?_) (fun c29 => ?_)
      · refine sn_iconst C 0 (by decide) dX6_isOf_53 ?_
        exact sn_zret C (v := false) rfl hF dX6_isOf_54 (by decide) (by decide) (by first | (simp [c6, c14, c46]; done) | (simp [c6, c14]; done) | (simp [c6]; done) | (exfalso; omega)) (by first | (simp [c6, c14]; done) | (simp [c6]; done) | (exfalso; omega)) rfl rfl
      · refine sw_aload_0 C dX6_isOf_32 ?_
        refine sw_getR C (o' := 13) fX6_16 rfl (by decide) rfl rfl (by decide) dX6_isOf_33 ?_
        refine sw_iload_1 C dX6_isOf_36 ?_
        refine sw_iload_3 C dX6_isOf_37 ?_
        refine sn_cS2r C vX6_of lX6_61 dX6_isOf_38 (Nat.le_of_ble_eq_true rfl) (c_X6_of hl) (by decide) (by decide) (by decide) ?_
        refine sn_ialde C (S 13 (41 + 5 * x + k)) (zU_o (by decide)) rfl (by decide) (by omega) (by decide) dX6_isOf_41 ?_
        refine sw_iload_2 C dX6_isOf_42 ?_
        refine sn_cS2r C vX6_has lX6_91 dX6_isOf_43 (Nat.le_of_ble_eq_true rfl) (c_X6_has hl (by have h3 := (hrs x (by omega)).2.2.1; have h4 := (hrs x (by omega)).2.2.2; rcases hk with h | h <;> subst h <;> omega) (by omega)) (by decide) (by decide) (by decide) ?_
        refine sn_if_eqB C 53 dX6_isOf_46 (by decide) (fun c46 => ?_) (fun c46 => ?_)
        · refine sn_iconst C 0 (by decide) dX6_isOf_53 ?_
          exact sn_zret C (v := false) rfl hF dX6_isOf_54 (by decide) (by decide) (by first | (simp [c6, c14, c46]; done) | (simp [c6, c14]; done) | (simp [c6]; done) | (exfalso; omega)) (by first | (simp [c6, c14]; done) | (simp [c6]; done) | (exfalso; omega)) rfl rfl
        · refine sn_iconst C 1 (by decide) dX6_isOf_49 ?_
          refine sw_goto C 54 dX6_isOf_50 (by decide) ?_
          exact sn_zret C (v := true) rfl hF dX6_isOf_54 (by decide) (by decide) (by first | (simp [c6, c14, c46]; done) | (simp [c6, c14]; done) | (simp [c6]; done) | (exfalso; omega)) (by first | (simp [c6, c14]; done) | (simp [c6]; done) | (exfalso; omega)) rfl rfl

set_option maxRecDepth 100000 in
set_option maxHeartbeats 4000000 in
theorem c_X6_isSpreader {l : Launch} (hl : l.stackTraces = false) {G : zG} {S : zS} {J : Int64} {E : UInt64} {n t : Nat} (hm : mNow S n t) {x y : Nat} (hx : x < 2 ^ 32) (hy : y < 2 ^ 32) : nCR l G mX6_isSpreader 4 0 0 [.ref 12, zi x, zi y] S J E (some (zi (decide (x < t ∧ y < n) && (S 13 (41 + 5 * x + 3)).testBit y).toNat)) (zU S 12 0 (if x < t ∧ y < n then 0 else 1)) J E := by
  refine nCR.of hl (by decide) rfl (Nat.le_of_ble_eq_true rfl) (ls := [some (.ref 12), some (zi x), some (zi y)]) rfl (fun X C hF hX => ?_)
  subst hX
  obtain ⟨hn, hz, ht, ht4, hls, hrs⟩ := id hm
  refine sw_aload_0 C dX6_isSpreader_0 ?_
  refine sw_iload_1 C dX6_isSpreader_1 ?_
  refine sw_iload_2 C dX6_isSpreader_2 ?_
  refine sn_iconst C 3 (by decide) dX6_isSpreader_3 ?_
  refine sn_cV3r C vX6_isOf lX6_154 rfl (by decide) rfl rfl dX6_isSpreader_4 (Nat.le_of_ble_eq_true rfl) (c_X6_isOf hl hm hx hy (k := 3) (by decide)) (by decide) (by decide) (by decide) ?_
  exact sn_zret C rfl hF dX6_isSpreader_7 (by decide) (by decide) (by first | rfl | (simp [*]; done)) rfl rfl rfl

set_option maxRecDepth 100000 in
set_option maxHeartbeats 4000000 in
theorem c_X6_isSceptic {l : Launch} (hl : l.stackTraces = false) {G : zG} {S : zS} {J : Int64} {E : UInt64} {n t : Nat} (hm : mNow S n t) {x y : Nat} (hx : x < 2 ^ 32) (hy : y < 2 ^ 32) : nCR l G mX6_isSceptic 4 0 0 [.ref 12, zi x, zi y] S J E (some (zi (decide (x < t ∧ y < n) && (S 13 (41 + 5 * x + 4)).testBit y).toNat)) (zU S 12 0 (if x < t ∧ y < n then 0 else 1)) J E := by
  refine nCR.of hl (by decide) rfl (Nat.le_of_ble_eq_true rfl) (ls := [some (.ref 12), some (zi x), some (zi y)]) rfl (fun X C hF hX => ?_)
  subst hX
  obtain ⟨hn, hz, ht, ht4, hls, hrs⟩ := id hm
  refine sw_aload_0 C dX6_isSceptic_0 ?_
  refine sw_iload_1 C dX6_isSceptic_1 ?_
  refine sw_iload_2 C dX6_isSceptic_2 ?_
  refine sn_iconst C 4 (by decide) dX6_isSceptic_3 ?_
  refine sn_cV3r C vX6_isOf lX6_154 rfl (by decide) rfl rfl dX6_isSceptic_4 (Nat.le_of_ble_eq_true rfl) (c_X6_isOf hl hm hx hy (k := 4) (by decide)) (by decide) (by decide) (by decide) ?_
  exact sn_zret C rfl hF dX6_isSceptic_7 (by decide) (by decide) (by first | rfl | (simp [*]; done)) rfl rfl rfl

set_option maxRecDepth 100000 in
set_option maxHeartbeats 4000000 in
theorem c_X6_heardRound {l : Launch} (hl : l.stackTraces = false) {G : zG} {S : zS} {J : Int64} {E : UInt64} {n t : Nat} (hm : mNow S n t) {x y : Nat} (hx : x < 2 ^ 32) (hy : y < 2 ^ 32) : nCR l G mX6_heardRound 7 0 0 [.ref 12, zi x, zi y] S J E (some (zi (if x < t ∧ y < n then (if (S 13 (41 + 5 * x + 3) ||| S 13 (41 + 5 * x + 4)).testBit y = true then S 13 (61 + 12 * x + y) else 0) else 0))) (zU S 12 0 (if x < t ∧ y < n then (if (S 13 (41 + 5 * x + 3) ||| S 13 (41 + 5 * x + 4)).testBit y = true then 0 else 2) else 1)) J E := by
  refine nCR.of hl (by decide) rfl (Nat.le_of_ble_eq_true rfl) (ls := [some (.ref 12), some (zi x), some (zi y)]) rfl (fun X C hF hX => ?_)
  subst hX
  obtain ⟨hn, hz, ht, ht4, hls, hrs⟩ := id hm
  refine sw_aload_0 C dX6_heardRound_0 ?_
  refine sw_iload_1 C dX6_heardRound_1 ?_
  refine sn_cV1r C vX6_isRumour lX6_115 rfl (by decide) rfl rfl dX6_heardRound_2 (Nat.le_of_ble_eq_true rfl) (c_X6_isRumour hl ht (by omega) hx) (by decide) (by decide) (by decide) ?_
  refine sn_if_eqB C 16 dX6_heardRound_5 (by decide) (fun c5 => ?_) (fun c5 => ?_)
  · simp only [decide_eq_false_iff_not, decide_eq_true_eq] at c5
    refine sw_aload_0 C dX6_heardRound_16 ?_
    refine sn_iconst C 1 (by decide) dX6_heardRound_17 ?_
    refine sn_cV1r C vX6_fail lX6_72 rfl (by decide) rfl rfl dX6_heardRound_18 (Nat.le_of_ble_eq_true rfl) (c_X6_fail hl) (by decide) (by decide) (by decide) ?_
    exact sn_iret C rfl hF dX6_heardRound_21 (by decide) (by decide) (by first | (simp only [c5, c13, c32, and_self, if_true]; done) | (simp [c5, c13, c32]; done) | (simp [c5, c13]; done) | (simp [c5]; done) | (exfalso; omega)) (by first | (simp [c5, c13, c32]; done) | (simp [c5, c13]; done) | (simp [c5]; done) | (exfalso; omega)) rfl rfl
  · simp only [decide_eq_false_iff_not, decide_eq_true_eq] at c5
    refine sw_aload_0 C dX6_heardRound_8 ?_
    refine sw_iload_2 C dX6_heardRound_9 ?_
    refine sn_cV1r C vX6_isEar lX6_88 rfl (by decide) rfl rfl dX6_heardRound_10 (Nat.le_of_ble_eq_true rfl) (c_X6_isEar hl hn (by omega) hy) (by decide) (by decide) (by decide) ?_
    refine sn_if_neB C 22 dX6_heardRound_13 (by decide) (fun c13 => ?_) (fun c13 => ?_)
    · simp only [decide_eq_false_iff_not, decide_eq_true_eq] at c13
      refine sw_aload_0 C dX6_heardRound_22 ?_
      refine sw_aload_0 C dX6_heardRound_23 ?_
      refine sw_iload_1 C dX6_heardRound_24 ?_
      refine sn_cV1r C vX6_aware lX6_127 rfl (by decide) rfl rfl dX6_heardRound_25 (Nat.le_of_ble_eq_true rfl) (c_X6_aware hl (by omega)) (by decide) (by decide) (by decide) ?_
      refine sw_iload_2 C dX6_heardRound_28 ?_
      refine sn_cS2r C vX6_has lX6_91 dX6_heardRound_29 (Nat.le_of_ble_eq_true rfl) (c_X6_has hl (by have h3 := (hrs x (by omega)).2.2.1; have h4 := (hrs x (by omega)).2.2.2; have := zOr_lt h3 h4; omega) (by omega)) (by decide) (by decide) (by decide) ?_
      refine sn_if_eqB C 39 dX6_heardRound_32 (by decide) (fun c32 => ?_) (fun c32 => ?_)
      · refine sn_iconst C 2 (by decide) dX6_heardRound_39 ?_
        refine sn_putI C fX6_47 rfl (by decide) rfl rfl dX6_heardRound_40 ?_
        refine sw_aload_0 C dX6_heardRound_43 ?_
        refine sn_getIe C (_) zU_s fX6_47 rfl (by decide) rfl dX6_heardRound_44 ?_
        refine sn_if_ne C 67 (by omega) dX6_heardRound_47 (by decide) (fun c47 => ?_) (fun c47 => ?_)
        · refine sn_iconst C 0 (by decide) dX6_heardRound_67 ?_
          exact sn_iret C rfl hF dX6_heardRound_68 (by decide) (by decide) (by first | (simp only [c5, c13, c32, and_self, if_true]; done) | (simp [c5, c13, c32]; done) | (simp [c5, c13]; done) | (simp [c5]; done) | (exfalso; omega)) (by first | (simp [c5, c13, c32]; done) | (simp [c5, c13]; done) | (simp [c5]; done) | (exfalso; omega)) rfl rfl
        · refine sw_aload_0 C dX6_heardRound_50 ?_
          refine sw_getR C (o' := 13) fX6_16 rfl (by decide) rfl rfl (by decide) dX6_heardRound_51 ?_
          refine sn_bipush C 61 (by decide) dX6_heardRound_54 ?_
          refine sn_bipush C 12 (by decide) dX6_heardRound_56 ?_
          refine sw_iload_1 C dX6_heardRound_58 ?_
          refine sn_imul C dX6_heardRound_59 ?_
          refine sn_iadd C dX6_heardRound_60 ?_
          refine sw_iload_2 C dX6_heardRound_61 ?_
          refine sn_iadd C dX6_heardRound_62 ?_
          refine sn_ialde C (S 13 (61 + 12 * x + y)) (zU_o (by decide)) rfl (by decide) (by omega) (by decide) dX6_heardRound_63 ?_
          refine sw_goto C 68 dX6_heardRound_64 (by decide) ?_
          exact sn_iret C rfl hF dX6_heardRound_68 (by decide) (by decide) (by first | (simp only [c5, c13, c32, and_self, if_true]; done) | (simp [c5, c13, c32]; done) | (simp [c5, c13]; done) | (simp [c5]; done) | (exfalso; omega)) (by first | (simp [c5, c13, c32]; done) | (simp [c5, c13]; done) | (simp [c5]; done) | (exfalso; omega)) rfl rfl
      · refine sn_iconst C 0 (by decide) dX6_heardRound_35 ?_
        refine sw_goto C 40 dX6_heardRound_36 (by decide) ?_
        refine sn_putI C fX6_47 rfl (by decide) rfl rfl dX6_heardRound_40 ?_
        refine sw_aload_0 C dX6_heardRound_43 ?_
        refine sn_getIe C (_) zU_s fX6_47 rfl (by decide) rfl dX6_heardRound_44 ?_
        refine sn_if_ne C 67 (by omega) dX6_heardRound_47 (by decide) (fun c47 => ?_) (fun c47 => ?_)
        · refine sn_iconst C 0 (by decide) dX6_heardRound_67 ?_
          exact sn_iret C rfl hF dX6_heardRound_68 (by decide) (by decide) (by first | (simp only [c5, c13, c32, and_self, if_true]; done) | (simp [c5, c13, c32]; done) | (simp [c5, c13]; done) | (simp [c5]; done) | (exfalso; omega)) (by first | (simp [c5, c13, c32]; done) | (simp [c5, c13]; done) | (simp [c5]; done) | (exfalso; omega)) rfl rfl
        · refine sw_aload_0 C dX6_heardRound_50 ?_
          refine sw_getR C (o' := 13) fX6_16 rfl (by decide) rfl rfl (by decide) dX6_heardRound_51 ?_
          refine sn_bipush C 61 (by decide) dX6_heardRound_54 ?_
          refine sn_bipush C 12 (by decide) dX6_heardRound_56 ?_
          refine sw_iload_1 C dX6_heardRound_58 ?_
          refine sn_imul C dX6_heardRound_59 ?_
          refine sn_iadd C dX6_heardRound_60 ?_
          refine sw_iload_2 C dX6_heardRound_61 ?_
          refine sn_iadd C dX6_heardRound_62 ?_
          refine sn_ialde C (S 13 (61 + 12 * x + y)) (zU_o (by decide)) rfl (by decide) (by omega) (by decide) dX6_heardRound_63 ?_
          refine sw_goto C 68 dX6_heardRound_64 (by decide) ?_
          exact sn_iret C rfl hF dX6_heardRound_68 (by decide) (by decide) (by first | (simp only [c5, c13, c32, and_self, if_true]; done) | (simp [c5, c13, c32]; done) | (simp [c5, c13]; done) | (simp [c5]; done) | (exfalso; omega)) (by first | (simp [c5, c13, c32]; done) | (simp [c5, c13]; done) | (simp [c5]; done) | (exfalso; omega)) rfl rfl
    · simp only [decide_eq_false_iff_not, decide_eq_true_eq] at c13
      refine sw_aload_0 C dX6_heardRound_16 ?_
      refine sn_iconst C 1 (by decide) dX6_heardRound_17 ?_
      refine sn_cV1r C vX6_fail lX6_72 rfl (by decide) rfl rfl dX6_heardRound_18 (Nat.le_of_ble_eq_true rfl) (c_X6_fail hl) (by decide) (by decide) (by decide) ?_
      exact sn_iret C rfl hF dX6_heardRound_21 (by decide) (by decide) (by first | (simp only [c5, c13, c32, and_self, if_true]; done) | (simp [c5, c13, c32]; done) | (simp [c5, c13]; done) | (simp [c5]; done) | (exfalso; omega)) (by first | (simp [c5, c13, c32]; done) | (simp [c5, c13]; done) | (simp [c5]; done) | (exfalso; omega)) rfl rfl

set_option maxRecDepth 100000 in
set_option maxHeartbeats 4000000 in
theorem c_X6_spreaderCount {l : Launch} (hl : l.stackTraces = false) {G : zG} {S : zS} {J : Int64} {E : UInt64} {n t : Nat} (hm : mNow S n t) {x : Nat} (hx : x < 2 ^ 32) : nCR l G mX6_spreaderCount 4 0 0 [.ref 12, zi x] S J E (some (zi (if x < t then zpop (S 13 (41 + 5 * x + 3)) else 0))) (zU S 12 0 (if x < t then 0 else 1)) J E := by
  refine nCR.of hl (by decide) rfl (Nat.le_of_ble_eq_true rfl) (ls := [some (.ref 12), some (zi x)]) rfl (fun X C hF hX => ?_)
  subst hX
  obtain ⟨hn, hz, ht, ht4, hls, hrs⟩ := id hm
  refine sw_aload_0 C dX6_spreaderCount_0 ?_
  refine sw_iload_1 C dX6_spreaderCount_1 ?_
  refine sn_iconst C 3 (by decide) dX6_spreaderCount_2 ?_
  refine sn_cV2r C vX6_tells lX6_151 rfl (by decide) rfl rfl dX6_spreaderCount_3 (Nat.le_of_ble_eq_true rfl) (c_X6_tells hl hm hx (by decide)) (by decide) (by decide) (by decide) ?_
  refine sn_cS1r C vX6_bits lX6_85 dX6_spreaderCount_6 (Nat.le_of_ble_eq_true rfl) (c_X6_bits hl (by split <;> first | exact (hrs x (by omega)).2.2.1 | decide)) (by decide) (by decide) (by decide) ?_
  exact sn_iret C rfl hF dX6_spreaderCount_9 (by decide) (by decide) (by split <;> rfl) rfl rfl rfl

set_option maxRecDepth 100000 in
set_option maxHeartbeats 4000000 in
theorem c_X6_scepticCount {l : Launch} (hl : l.stackTraces = false) {G : zG} {S : zS} {J : Int64} {E : UInt64} {n t : Nat} (hm : mNow S n t) {x : Nat} (hx : x < 2 ^ 32) : nCR l G mX6_scepticCount 4 0 0 [.ref 12, zi x] S J E (some (zi (if x < t then zpop (S 13 (41 + 5 * x + 4)) else 0))) (zU S 12 0 (if x < t then 0 else 1)) J E := by
  refine nCR.of hl (by decide) rfl (Nat.le_of_ble_eq_true rfl) (ls := [some (.ref 12), some (zi x)]) rfl (fun X C hF hX => ?_)
  subst hX
  obtain ⟨hn, hz, ht, ht4, hls, hrs⟩ := id hm
  refine sw_aload_0 C dX6_scepticCount_0 ?_
  refine sw_iload_1 C dX6_scepticCount_1 ?_
  refine sn_iconst C 4 (by decide) dX6_scepticCount_2 ?_
  refine sn_cV2r C vX6_tells lX6_151 rfl (by decide) rfl rfl dX6_scepticCount_3 (Nat.le_of_ble_eq_true rfl) (c_X6_tells hl hm hx (by decide)) (by decide) (by decide) (by decide) ?_
  refine sn_cS1r C vX6_bits lX6_85 dX6_scepticCount_6 (Nat.le_of_ble_eq_true rfl) (c_X6_bits hl (by split <;> first | exact (hrs x (by omega)).2.2.2 | decide)) (by decide) (by decide) (by decide) ?_
  exact sn_iret C rfl hF dX6_scepticCount_9 (by decide) (by decide) (by split <;> rfl) rfl rfl rfl

def mInH (V : Nat → Nat) (n r h : Nat) : Nat := zcnt n (fun e => decide (V (5 + e) = h) && (V (41 + 5 * r + 3)).testBit e)
def mBest (V : Nat → Nat) (n r : Nat) : Nat := zIt (fun k b => if mInH V n r b < mInH V n r (k + 1) then k + 1 else b) 3 0
theorem mBest_lt {V : Nat → Nat} {n r i : Nat} (hi : i ≤ 3) : zIt (fun k b => if mInH V n r b < mInH V n r (k + 1) then k + 1 else b) i 0 < 4 :=
  zIt_inv (fun b => b < 4) (by decide) (fun k b hk hb => by (try dsimp only); split <;> omega)

set_option maxRecDepth 100000 in
set_option maxHeartbeats 4000000 in
theorem c_X6_inHive {l : Launch} (hl : l.stackTraces = false) {G : zG} {S : zS} {J : Int64} {E : UInt64} {V : Nat → Nat} (hV : S 13 = V) {n : Nat} (hn : V 0 = n) (hz : n ≤ 12) {x : Nat} (hx : x < 4) {h : Nat} (hh : h < 2 ^ 32) (hhv : ∀ e, e < 12 → V (5 + e) < 4) (h3 : V (41 + 5 * x + 3) < 4096) : nCR l G mX6_inHive 1 0 0 [.ref 12, zi x, zi h] S J E (some (zi (mInH V n x h))) S J E := by
  refine nCR.of hl (by decide) rfl (Nat.le_of_ble_eq_true rfl) (ls := [some (.ref 12), some (zi x), some (zi h), none, none]) rfl (fun X C hF hX => ?_)
  subst hX
  subst hV
  refine sn_iconst C 0 (by decide) dX6_inHive_0 ?_
  refine sw_istore_3 C rfl dX6_inHive_1 ?_
  refine sn_iconst C 0 (by decide) dX6_inHive_2 ?_
  refine sw_istore_4 C rfl dX6_inHive_3 ?_
  have L5 : ∀ (kM i : Nat) (m : Nat), i ≤ n → (m = zcnt i (fun e => decide (S 13 (5 + e) = h) && (S 13 (41 + 5 * x + 3)).testBit e)) → n - i < kM → SN G X 0 0 5 [some (.ref 12), some (zi x), some (zi h), some (zi m), some (zi i)] [] S J E := by
    intro kM
    induction kM with
    | zero => intro i m _ _ hkM; exact absurd hkM (by omega)
    | succ kM ih5 =>
      intro i m hi hq hkM
      refine sw_iload_4 C dX6_inHive_5 ?_
      refine sw_aload_0 C dX6_inHive_7 ?_
      refine sw_getR C (o' := 13) fX6_16 rfl (by decide) rfl rfl (by decide) dX6_inHive_8 ?_
      refine sn_iconst C 0 (by decide) dX6_inHive_11 ?_
      refine sn_iald C rfl (by decide) (by omega) (by decide) dX6_inHive_12 ?_
      refine sn_icmp_ge C 61 (by omega) (by omega) dX6_inHive_13 (by decide) (fun c13 => ?_) (fun c13 => ?_)
      · refine sw_iload_3 C dX6_inHive_61 ?_
        exact sn_iret C rfl hF dX6_inHive_62 (by decide) (by decide) (by rw [hq, show i = n from by omega]; rfl) rfl rfl rfl
      · refine sw_iload_3 C dX6_inHive_16 ?_
        refine sw_aload_0 C dX6_inHive_17 ?_
        refine sw_getR C (o' := 13) fX6_16 rfl (by decide) rfl rfl (by decide) dX6_inHive_18 ?_
        refine sn_iconst C 5 (by decide) dX6_inHive_21 ?_
        refine sw_iload_4 C dX6_inHive_22 ?_
        refine sn_iadd C dX6_inHive_24 ?_
        refine sn_iald C rfl (by decide) (by omega) (by decide) dX6_inHive_25 ?_
        refine sw_iload_2 C dX6_inHive_26 ?_
        refine sn_icmp_ne C 52 (by have := hhv i (by omega); omega) hh dX6_inHive_27 (by decide) (fun c27 => ?_) (fun c27 => ?_)
        · refine sn_iconst C 0 (by decide) dX6_inHive_52 ?_
          refine sn_iadd C dX6_inHive_53 ?_
          refine sw_istore_3 C rfl dX6_inHive_54 ?_
          refine sn_iinc_4 C rfl dX6_inHive_55 ?_
          refine sw_goto C 5 dX6_inHive_58 (by decide) ?_
          exact ih5 (i + 1) _ (by omega) (by rw [zcnt, zIt, ← zcnt, ← hq]; first | (simp [c27, c45]; done) | (simp [c27]; done)) (by omega)
        · refine sw_aload_0 C dX6_inHive_30 ?_
          refine sw_getR C (o' := 13) fX6_16 rfl (by decide) rfl rfl (by decide) dX6_inHive_31 ?_
          refine sw_iload_1 C dX6_inHive_34 ?_
          refine sn_iconst C 3 (by decide) dX6_inHive_35 ?_
          refine sn_cS2r C vX6_of lX6_61 dX6_inHive_36 (Nat.le_of_ble_eq_true rfl) (c_X6_of hl) (by decide) (by decide) (by decide) ?_
          refine sn_iald C rfl (by decide) (by omega) (by decide) dX6_inHive_39 ?_
          refine sw_iload_4 C dX6_inHive_40 ?_
          refine sn_cS2r C vX6_has lX6_91 dX6_inHive_42 (Nat.le_of_ble_eq_true rfl) (c_X6_has hl (by omega) (by omega)) (by decide) (by decide) (by decide) ?_
          refine sn_if_eqB C 52 dX6_inHive_45 (by decide) (fun c45 => ?_) (fun c45 => ?_)
          · refine sn_iconst C 0 (by decide) dX6_inHive_52 ?_
            refine sn_iadd C dX6_inHive_53 ?_
            refine sw_istore_3 C rfl dX6_inHive_54 ?_
            refine sn_iinc_4 C rfl dX6_inHive_55 ?_
            refine sw_goto C 5 dX6_inHive_58 (by decide) ?_
            exact ih5 (i + 1) _ (by omega) (by rw [zcnt, zIt, ← zcnt, ← hq]; first | (simp [c27, c45]; done) | (simp [c27]; done)) (by omega)
          · refine sn_iconst C 1 (by decide) dX6_inHive_48 ?_
            refine sw_goto C 53 dX6_inHive_49 (by decide) ?_
            refine sn_iadd C dX6_inHive_53 ?_
            refine sw_istore_3 C rfl dX6_inHive_54 ?_
            refine sn_iinc_4 C rfl dX6_inHive_55 ?_
            refine sw_goto C 5 dX6_inHive_58 (by decide) ?_
            exact ih5 (i + 1) _ (by omega) (by rw [zcnt, zIt, ← zcnt, ← hq]; first | (simp [c27, c45]; done) | (simp [c27]; done)) (by omega)
  exact L5 _ 0 0 (by omega) rfl (Nat.lt_succ_self _)

set_option maxRecDepth 100000 in
set_option maxHeartbeats 4000000 in
theorem c_X6_countedHive {l : Launch} (hl : l.stackTraces = false) {G : zG} {S : zS} {J : Int64} {E : UInt64} {n t : Nat} (hm : mNow S n t) {x : Nat} (hx : x < 2 ^ 32) : nCR l G mX6_countedHive 7 0 0 [.ref 12, zi x] S J E (some (zi (if x < t then (if S 13 (41 + 5 * x + 3) = 0 then 0 else mBest (S 13) n x) else 0))) (zU S 12 0 (if x < t then (if S 13 (41 + 5 * x + 3) = 0 then 2 else 0) else 1)) J E := by
  refine nCR.of hl (by decide) rfl (Nat.le_of_ble_eq_true rfl) (ls := [some (.ref 12), some (zi x), none, none]) rfl (fun X C hF hX => ?_)
  subst hX
  obtain ⟨hn, hz, ht, ht4, hls, hrs⟩ := id hm
  refine sw_aload_0 C dX6_countedHive_0 ?_
  refine sw_iload_1 C dX6_countedHive_1 ?_
  refine sn_cV1r C vX6_isRumour lX6_115 rfl (by decide) rfl rfl dX6_countedHive_2 (Nat.le_of_ble_eq_true rfl) (c_X6_isRumour hl ht (by omega) hx) (by decide) (by decide) (by decide) ?_
  refine sn_if_neB C 14 dX6_countedHive_5 (by decide) (fun c5 => ?_) (fun c5 => ?_)
  · simp only [decide_eq_false_iff_not, decide_eq_true_eq] at c5
    refine sw_aload_0 C dX6_countedHive_14 ?_
    refine sw_aload_0 C dX6_countedHive_15 ?_
    refine sw_getR C (o' := 13) fX6_16 rfl (by decide) rfl rfl (by decide) dX6_countedHive_16 ?_
    refine sw_iload_1 C dX6_countedHive_19 ?_
    refine sn_iconst C 3 (by decide) dX6_countedHive_20 ?_
    refine sn_cS2r C vX6_of lX6_61 dX6_countedHive_21 (Nat.le_of_ble_eq_true rfl) (c_X6_of hl) (by decide) (by decide) (by decide) ?_
    refine sn_iald C rfl (by decide) (by omega) (by decide) dX6_countedHive_24 ?_
    refine sn_if_ne C 32 (by have := (hrs x (by omega)).2.2.1; omega) dX6_countedHive_25 (by decide) (fun c25 => ?_) (fun c25 => ?_)
    · refine sn_iconst C 0 (by decide) dX6_countedHive_32 ?_
      refine sn_putI C fX6_47 rfl (by decide) rfl rfl dX6_countedHive_33 ?_
      refine sn_iconst C 0 (by decide) dX6_countedHive_36 ?_
      refine sw_istore_2 C rfl dX6_countedHive_37 ?_
      refine sn_iconst C 1 (by decide) dX6_countedHive_38 ?_
      refine sw_istore_3 C rfl dX6_countedHive_39 ?_
      have L40 : ∀ (kM i : Nat) (b : Nat) (c : Nat), i ≤ 3 → (c = if S 13 (41 + 5 * x + 3) = 0 then 2 else 0) → (b = zIt (fun k b => if mInH (S 13) n x b < mInH (S 13) n x (k + 1) then k + 1 else b) i 0) → 3 - i < kM → SN G X 0 0 40 [some (.ref 12), some (zi x), some (zi b), some (zi (i + 1))] [] (zU S 12 0 c) J E := by
        intro kM
        induction kM with
        | zero => intro i b c _ _ _ hkM; exact absurd hkM (by omega)
        | succ kM ih40 =>
          intro i b c hi hc hq hkM
          have hb4 : b < 4 := by rw [hq]; exact mBest_lt hi
          refine sw_iload_3 C dX6_countedHive_40 ?_
          refine sn_iconst C 4 (by decide) dX6_countedHive_41 ?_
          refine sn_icmp_ge C 68 (by omega) (by omega) dX6_countedHive_42 (by decide) (fun c42 => ?_) (fun c42 => ?_)
          · refine sw_aload_0 C dX6_countedHive_68 ?_
            refine sn_getIe C (_) zU_s fX6_47 rfl (by decide) rfl dX6_countedHive_69 ?_
            refine sn_if_ne C 79 (by rw [hc]; split <;> omega) dX6_countedHive_72 (by decide) (fun c72 => ?_) (fun c72 => ?_)
            · refine sn_iconst C 0 (by decide) dX6_countedHive_79 ?_
              exact sn_iret C rfl hF dX6_countedHive_80 (by decide) (by decide) (by first | (rw [if_pos c5, if_neg (by intro h; rw [hc, if_pos h] at c72; omega), hq, show i = 3 from by omega]; rfl) | (rw [if_pos c5, if_pos (Classical.byContradiction (fun h => by rw [hc, if_neg h] at c72; omega))]; done)) (by rw [hc, if_pos c5]) rfl rfl
            · refine sw_iload_2 C dX6_countedHive_75 ?_
              refine sw_goto C 80 dX6_countedHive_76 (by decide) ?_
              exact sn_iret C rfl hF dX6_countedHive_80 (by decide) (by decide) (by first | (rw [if_pos c5, if_neg (by intro h; rw [hc, if_pos h] at c72; omega), hq, show i = 3 from by omega]; rfl) | (rw [if_pos c5, if_pos (Classical.byContradiction (fun h => by rw [hc, if_neg h] at c72; omega))]; done)) (by rw [hc, if_pos c5]) rfl rfl
          · refine sw_aload_0 C dX6_countedHive_45 ?_
            refine sw_iload_1 C dX6_countedHive_46 ?_
            refine sw_iload_3 C dX6_countedHive_47 ?_
            refine sn_cV2r C vX6_inHive lX6_157 rfl (by decide) rfl rfl dX6_countedHive_48 (Nat.le_of_ble_eq_true rfl) (c_X6_inHive hl (V := S 13) (funext (fun b => zU_o (by decide))) hn hz (by omega) (by omega) (fun e he => (hls e he).1) (hrs x (by omega)).2.2.1) (by decide) (by decide) (by decide) ?_
            refine sw_aload_0 C dX6_countedHive_51 ?_
            refine sw_iload_1 C dX6_countedHive_52 ?_
            refine sw_iload_2 C dX6_countedHive_53 ?_
            refine sn_cV2r C vX6_inHive lX6_157 rfl (by decide) rfl rfl dX6_countedHive_54 (Nat.le_of_ble_eq_true rfl) (c_X6_inHive hl (V := S 13) (funext (fun b => zU_o (by decide))) hn hz (by omega) (by omega) (fun e he => (hls e he).1) (hrs x (by omega)).2.2.1) (by decide) (by decide) (by decide) ?_
            refine sn_icmp_le C 62 (by have : mInH (S 13) n x (i + 1) ≤ n := zcnt_le _ _; omega) (by have : mInH (S 13) n x b ≤ n := zcnt_le _ _; omega) dX6_countedHive_57 (by decide) (fun c57 => ?_) (fun c57 => ?_)
            · refine sn_iinc_3 C rfl dX6_countedHive_62 ?_
              refine sw_goto C 40 dX6_countedHive_65 (by decide) ?_
              exact ih40 (i + 1) _ _ (by omega) hc (by rw [zIt, ← hq]; first | (rw [if_pos (by omega)]; done) | (rw [if_neg (by omega)]; done)) (by omega)
            · refine sw_iload_3 C dX6_countedHive_60 ?_
              refine sw_istore_2 C rfl dX6_countedHive_61 ?_
              refine sn_iinc_3 C rfl dX6_countedHive_62 ?_
              refine sw_goto C 40 dX6_countedHive_65 (by decide) ?_
              exact ih40 (i + 1) _ _ (by omega) hc (by rw [zIt, ← hq]; first | (rw [if_pos (by omega)]; done) | (rw [if_neg (by omega)]; done)) (by omega)
      exact L40 _ 0 _ _ (by omega) (by simp [c25]) rfl (Nat.lt_succ_self _)
    · refine sn_iconst C 2 (by decide) dX6_countedHive_28 ?_
      refine sw_goto C 33 dX6_countedHive_29 (by decide) ?_
      refine sn_putI C fX6_47 rfl (by decide) rfl rfl dX6_countedHive_33 ?_
      refine sn_iconst C 0 (by decide) dX6_countedHive_36 ?_
      refine sw_istore_2 C rfl dX6_countedHive_37 ?_
      refine sn_iconst C 1 (by decide) dX6_countedHive_38 ?_
      refine sw_istore_3 C rfl dX6_countedHive_39 ?_
      have L40 : ∀ (kM i : Nat) (b : Nat) (c : Nat), i ≤ 3 → (c = if S 13 (41 + 5 * x + 3) = 0 then 2 else 0) → (b = zIt (fun k b => if mInH (S 13) n x b < mInH (S 13) n x (k + 1) then k + 1 else b) i 0) → 3 - i < kM → SN G X 0 0 40 [some (.ref 12), some (zi x), some (zi b), some (zi (i + 1))] [] (zU S 12 0 c) J E := by
        intro kM
        induction kM with
        | zero => intro i b c _ _ _ hkM; exact absurd hkM (by omega)
        | succ kM ih40 =>
          intro i b c hi hc hq hkM
          have hb4 : b < 4 := by rw [hq]; exact mBest_lt hi
          refine sw_iload_3 C dX6_countedHive_40 ?_
          refine sn_iconst C 4 (by decide) dX6_countedHive_41 ?_
          refine sn_icmp_ge C 68 (by omega) (by omega) dX6_countedHive_42 (by decide) (fun c42 => ?_) (fun c42 => ?_)
          · refine sw_aload_0 C dX6_countedHive_68 ?_
            refine sn_getIe C (_) zU_s fX6_47 rfl (by decide) rfl dX6_countedHive_69 ?_
            refine sn_if_ne C 79 (by rw [hc]; split <;> omega) dX6_countedHive_72 (by decide) (fun c72 => ?_) (fun c72 => ?_)
            · refine sn_iconst C 0 (by decide) dX6_countedHive_79 ?_
              exact sn_iret C rfl hF dX6_countedHive_80 (by decide) (by decide) (by first | (rw [if_pos c5, if_neg (by intro h; rw [hc, if_pos h] at c72; omega), hq, show i = 3 from by omega]; rfl) | (rw [if_pos c5, if_pos (Classical.byContradiction (fun h => by rw [hc, if_neg h] at c72; omega))]; done)) (by rw [hc, if_pos c5]) rfl rfl
            · refine sw_iload_2 C dX6_countedHive_75 ?_
              refine sw_goto C 80 dX6_countedHive_76 (by decide) ?_
              exact sn_iret C rfl hF dX6_countedHive_80 (by decide) (by decide) (by first | (rw [if_pos c5, if_neg (by intro h; rw [hc, if_pos h] at c72; omega), hq, show i = 3 from by omega]; rfl) | (rw [if_pos c5, if_pos (Classical.byContradiction (fun h => by rw [hc, if_neg h] at c72; omega))]; done)) (by rw [hc, if_pos c5]) rfl rfl
          · refine sw_aload_0 C dX6_countedHive_45 ?_
            refine sw_iload_1 C dX6_countedHive_46 ?_
            refine sw_iload_3 C dX6_countedHive_47 ?_
            refine sn_cV2r C vX6_inHive lX6_157 rfl (by decide) rfl rfl dX6_countedHive_48 (Nat.le_of_ble_eq_true rfl) (c_X6_inHive hl (V := S 13) (funext (fun b => zU_o (by decide))) hn hz (by omega) (by omega) (fun e he => (hls e he).1) (hrs x (by omega)).2.2.1) (by decide) (by decide) (by decide) ?_
            refine sw_aload_0 C dX6_countedHive_51 ?_
            refine sw_iload_1 C dX6_countedHive_52 ?_
            refine sw_iload_2 C dX6_countedHive_53 ?_
            refine sn_cV2r C vX6_inHive lX6_157 rfl (by decide) rfl rfl dX6_countedHive_54 (Nat.le_of_ble_eq_true rfl) (c_X6_inHive hl (V := S 13) (funext (fun b => zU_o (by decide))) hn hz (by omega) (by omega) (fun e he => (hls e he).1) (hrs x (by omega)).2.2.1) (by decide) (by decide) (by decide) ?_
            refine sn_icmp_le C 62 (by have : mInH (S 13) n x (i + 1) ≤ n := zcnt_le _ _; omega) (by have : mInH (S 13) n x b ≤ n := zcnt_le _ _; omega) dX6_countedHive_57 (by decide) (fun c57 => ?_) (fun c57 => ?_)
            · refine sn_iinc_3 C rfl dX6_countedHive_62 ?_
              refine sw_goto C 40 dX6_countedHive_65 (by decide) ?_
              exact ih40 (i + 1) _ _ (by omega) hc (by rw [zIt, ← hq]; first | (rw [if_pos (by omega)]; done) | (rw [if_neg (by omega)]; done)) (by omega)
            · refine sw_iload_3 C dX6_countedHive_60 ?_
              refine sw_istore_2 C rfl dX6_countedHive_61 ?_
              refine sn_iinc_3 C rfl dX6_countedHive_62 ?_
              refine sw_goto C 40 dX6_countedHive_65 (by decide) ?_
              exact ih40 (i + 1) _ _ (by omega) hc (by rw [zIt, ← hq]; first | (rw [if_pos (by omega)]; done) | (rw [if_neg (by omega)]; done)) (by omega)
      exact L40 _ 0 _ _ (by omega) (by simp [c25]) rfl (Nat.lt_succ_self _)
  · simp only [decide_eq_false_iff_not, decide_eq_true_eq] at c5
    refine sw_aload_0 C dX6_countedHive_8 ?_
    refine sn_iconst C 1 (by decide) dX6_countedHive_9 ?_
    refine sn_cV1r C vX6_fail lX6_72 rfl (by decide) rfl rfl dX6_countedHive_10 (Nat.le_of_ble_eq_true rfl) (c_X6_fail hl) (by decide) (by decide) (by decide) ?_
    exact sn_iret C rfl hF dX6_countedHive_13 (by decide) (by decide) (by simp [c5]) (by simp [c5]) rfl rfl

set_option maxRecDepth 100000 in
set_option maxHeartbeats 4000000 in
theorem c_X6_spreadersInHive {l : Launch} (hl : l.stackTraces = false) {G : zG} {S : zS} {J : Int64} {E : UInt64} {n t : Nat} (hm : mNow S n t) {x y : Nat} (hx : x < 2 ^ 32) (hy : y < 2 ^ 32) : nCR l G mX6_spreadersInHive 7 0 0 [.ref 12, zi x, zi y] S J E (some (zi (if x < t ∧ y < 4 then mInH (S 13) n x y else 0))) (zU S 12 0 (if x < t ∧ y < 4 then 0 else 1)) J E := by
  refine nCR.of hl (by decide) rfl (Nat.le_of_ble_eq_true rfl) (ls := [some (.ref 12), some (zi x), some (zi y)]) rfl (fun X C hF hX => ?_)
  subst hX
  obtain ⟨hn, hz, ht, ht4, hls, hrs⟩ := id hm
  refine sw_aload_0 C dX6_spreadersInHive_0 ?_
  refine sw_aload_0 C dX6_spreadersInHive_1 ?_
  refine sw_iload_1 C dX6_spreadersInHive_2 ?_
  refine sn_cV1r C vX6_isRumour lX6_115 rfl (by decide) rfl rfl dX6_spreadersInHive_3 (Nat.le_of_ble_eq_true rfl) (c_X6_isRumour hl ht (by omega) hx) (by decide) (by decide) (by decide) ?_
  refine sn_if_eqB C 20 dX6_spreadersInHive_6 (by decide) (fun c6 => ?_) (fun c6 => ?_)
  · simp only [decide_eq_false_iff_not, decide_eq_true_eq] at c6
    refine sn_iconst C 1 (by decide) dX6_spreadersInHive_20 ?_
    refine sn_putI C fX6_47 rfl (by decide) rfl rfl dX6_spreadersInHive_21 ?_
    refine sw_aload_0 C dX6_spreadersInHive_24 ?_
    refine sn_getIe C (_) zU_s fX6_47 rfl (by decide) rfl dX6_spreadersInHive_25 ?_
    refine sn_if_ne C 40 (by omega) dX6_spreadersInHive_28 (by decide) (fun c28 => ?_) (fun c28 => ?_)
    · refine sn_iconst C 0 (by decide) dX6_spreadersInHive_40 ?_
      exact sn_iret C rfl hF dX6_spreadersInHive_41 (by decide) (by decide) (by first | (simp [c6, c13]; done) | (simp [c6]; done) | (exfalso; omega)) (by first | (simp [c6, c13]; done) | (simp [c6]; done) | (exfalso; omega)) rfl rfl
    · refine sw_aload_0 C dX6_spreadersInHive_31 ?_
      refine sw_iload_1 C dX6_spreadersInHive_32 ?_
      refine sw_iload_2 C dX6_spreadersInHive_33 ?_
      refine sn_cV2r C vX6_inHive lX6_157 rfl (by decide) rfl rfl dX6_spreadersInHive_34 (Nat.le_of_ble_eq_true rfl) (c_X6_inHive hl (V := S 13) (funext (fun b => zU_o (by decide))) hn hz (by omega) (by omega) (fun e he => (hls e he).1) (hrs x (by omega)).2.2.1) (by decide) (by decide) (by decide) ?_
      refine sw_goto C 41 dX6_spreadersInHive_37 (by decide) ?_
      exact sn_iret C rfl hF dX6_spreadersInHive_41 (by decide) (by decide) (by first | (simp [c6, c13]; done) | (simp [c6]; done) | (exfalso; omega)) (by first | (simp [c6, c13]; done) | (simp [c6]; done) | (exfalso; omega)) rfl rfl
  · simp only [decide_eq_false_iff_not, decide_eq_true_eq] at c6
    refine sw_iload_2 C dX6_spreadersInHive_9 ?_
    refine sn_cS1r C vX6_isHive lX6_65 dX6_spreadersInHive_10 (Nat.le_of_ble_eq_true rfl) (c_X6_isHive hl hy) (by decide) (by decide) (by decide) ?_
    refine sn_if_eqB C 20 dX6_spreadersInHive_13 (by decide) (fun c13 => ?_) (fun c13 => ?_)
    · simp only [decide_eq_false_iff_not, decide_eq_true_eq] at c13
      refine sn_iconst C 1 (by decide) dX6_spreadersInHive_20 ?_
      refine sn_putI C fX6_47 rfl (by decide) rfl rfl dX6_spreadersInHive_21 ?_
      refine sw_aload_0 C dX6_spreadersInHive_24 ?_
      refine sn_getIe C (_) zU_s fX6_47 rfl (by decide) rfl dX6_spreadersInHive_25 ?_
      refine sn_if_ne C 40 (by omega) dX6_spreadersInHive_28 (by decide) (fun c28 => ?_) (fun c28 => ?_)
      · refine sn_iconst C 0 (by decide) dX6_spreadersInHive_40 ?_
        exact sn_iret C rfl hF dX6_spreadersInHive_41 (by decide) (by decide) (by first | (simp [c6, c13]; done) | (simp [c6]; done) | (exfalso; omega)) (by first | (simp [c6, c13]; done) | (simp [c6]; done) | (exfalso; omega)) rfl rfl
      · refine sw_aload_0 C dX6_spreadersInHive_31 ?_
        refine sw_iload_1 C dX6_spreadersInHive_32 ?_
        refine sw_iload_2 C dX6_spreadersInHive_33 ?_
        refine sn_cV2r C vX6_inHive lX6_157 rfl (by decide) rfl rfl dX6_spreadersInHive_34 (Nat.le_of_ble_eq_true rfl) (c_X6_inHive hl (V := S 13) (funext (fun b => zU_o (by decide))) hn hz (by omega) (by omega) (fun e he => (hls e he).1) (hrs x (by omega)).2.2.1) (by decide) (by decide) (by decide) ?_
        refine sw_goto C 41 dX6_spreadersInHive_37 (by decide) ?_
        exact sn_iret C rfl hF dX6_spreadersInHive_41 (by decide) (by decide) (by first | (simp [c6, c13]; done) | (simp [c6]; done) | (exfalso; omega)) (by first | (simp [c6, c13]; done) | (simp [c6]; done) | (exfalso; omega)) rfl rfl
    · simp only [decide_eq_false_iff_not, decide_eq_true_eq] at c13
      refine sn_iconst C 0 (by decide) dX6_spreadersInHive_16 ?_
      refine sw_goto C 21 dX6_spreadersInHive_17 (by decide) ?_
      refine sn_putI C fX6_47 rfl (by decide) rfl rfl dX6_spreadersInHive_21 ?_
      refine sw_aload_0 C dX6_spreadersInHive_24 ?_
      refine sn_getIe C (_) zU_s fX6_47 rfl (by decide) rfl dX6_spreadersInHive_25 ?_
      refine sn_if_ne C 40 (by omega) dX6_spreadersInHive_28 (by decide) (fun c28 => ?_) (fun c28 => ?_)
      · refine sn_iconst C 0 (by decide) dX6_spreadersInHive_40 ?_
        exact sn_iret C rfl hF dX6_spreadersInHive_41 (by decide) (by decide) (by first | (simp [c6, c13]; done) | (simp [c6]; done) | (exfalso; omega)) (by first | (simp [c6, c13]; done) | (simp [c6]; done) | (exfalso; omega)) rfl rfl
      · refine sw_aload_0 C dX6_spreadersInHive_31 ?_
        refine sw_iload_1 C dX6_spreadersInHive_32 ?_
        refine sw_iload_2 C dX6_spreadersInHive_33 ?_
        refine sn_cV2r C vX6_inHive lX6_157 rfl (by decide) rfl rfl dX6_spreadersInHive_34 (Nat.le_of_ble_eq_true rfl) (c_X6_inHive hl (V := S 13) (funext (fun b => zU_o (by decide))) hn hz (by omega) (by omega) (fun e he => (hls e he).1) (hrs x (by omega)).2.2.1) (by decide) (by decide) (by decide) ?_
        refine sw_goto C 41 dX6_spreadersInHive_37 (by decide) ?_
        exact sn_iret C rfl hF dX6_spreadersInHive_41 (by decide) (by decide) (by first | (simp [c6, c13]; done) | (simp [c6]; done) | (exfalso; omega)) (by first | (simp [c6, c13]; done) | (simp [c6]; done) | (exfalso; omega)) rfl rfl
