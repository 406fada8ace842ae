set_option maxRecDepth 100000 in
set_option maxHeartbeats 4000000 in
theorem c_X6_listenerCount {l : Launch} (hl : l.stackTraces = false) {G : zG} {S : zS} {J : Int64} {E : UInt64} {n t : Nat} (hm : mNow S n t)  : nCR l G mX6_listenerCount 7 0 0 [.ref 12] S J E (some (zi n)) (zU S 12 0 0) J E := by
  refine nCR.of hl (by decide) rfl (Nat.le_of_ble_eq_true rfl) (ls := [some (.ref 12)]) rfl (fun X C hF hX => ?_)
  subst hX
  obtain ⟨hn, hz, ht, ht4, hls, hrs⟩ := id hm
  refine sw_aload_0 C dX6_listenerCount_0 ?_
  refine sn_iconst C 0 (by decide) dX6_listenerCount_1 ?_
  refine sn_putI C fX6_47 rfl (by decide) rfl rfl dX6_listenerCount_2 ?_
  refine sw_aload_0 C dX6_listenerCount_5 ?_
  refine sw_getR C (o' := 13) fX6_16 rfl (by decide) rfl rfl (by decide) dX6_listenerCount_6 ?_
  refine sn_iconst C 0 (by decide) dX6_listenerCount_9 ?_
  refine sn_iald C rfl (by decide) (by omega) (by decide) dX6_listenerCount_10 ?_
  exact sn_iret C rfl hF dX6_listenerCount_11 (by decide) (by decide) (by exact (zU_o (by decide)).trans hn) rfl rfl rfl

set_option maxRecDepth 100000 in
set_option maxHeartbeats 4000000 in
theorem c_X6_rumourCount {l : Launch} (hl : l.stackTraces = false) {G : zG} {S : zS} {J : Int64} {E : UInt64} {n t : Nat} (hm : mNow S n t)  : nCR l G mX6_rumourCount 7 0 0 [.ref 12] S J E (some (zi t)) (zU S 12 0 0) J E := by
  refine nCR.of hl (by decide) rfl (Nat.le_of_ble_eq_true rfl) (ls := [some (.ref 12)]) rfl (fun X C hF hX => ?_)
  subst hX
  obtain ⟨hn, hz, ht, ht4, hls, hrs⟩ := id hm
  refine sw_aload_0 C dX6_rumourCount_0 ?_
  refine sn_iconst C 0 (by decide) dX6_rumourCount_1 ?_
  refine sn_putI C fX6_47 rfl (by decide) rfl rfl dX6_rumourCount_2 ?_
  refine sw_aload_0 C dX6_rumourCount_5 ?_
  refine sw_getR C (o' := 13) fX6_16 rfl (by decide) rfl rfl (by decide) dX6_rumourCount_6 ?_
  refine sn_iconst C 1 (by decide) dX6_rumourCount_9 ?_
  refine sn_iald C rfl (by decide) (by omega) (by decide) dX6_rumourCount_10 ?_
  exact sn_iret C rfl hF dX6_rumourCount_11 (by decide) (by decide) (by exact (zU_o (by decide)).trans ht) rfl rfl rfl

set_option maxRecDepth 100000 in
set_option maxHeartbeats 4000000 in
theorem c_X6_round {l : Launch} (hl : l.stackTraces = false) {G : zG} {S : zS} {J : Int64} {E : UInt64} {n t : Nat} (hm : mNow S n t)  : nCR l G mX6_round 7 0 0 [.ref 12] S J E (some (zi (S 13 2))) (zU S 12 0 0) J E := by
  refine nCR.of hl (by decide) rfl (Nat.le_of_ble_eq_true rfl) (ls := [some (.ref 12)]) rfl (fun X C hF hX => ?_)
  subst hX
  obtain ⟨hn, hz, ht, ht4, hls, hrs⟩ := id hm
  refine sw_aload_0 C dX6_round_0 ?_
  refine sn_iconst C 0 (by decide) dX6_round_1 ?_
  refine sn_putI C fX6_47 rfl (by decide) rfl rfl dX6_round_2 ?_
  refine sw_aload_0 C dX6_round_5 ?_
  refine sw_getR C (o' := 13) fX6_16 rfl (by decide) rfl rfl (by decide) dX6_round_6 ?_
  refine sn_iconst C 2 (by decide) dX6_round_9 ?_
  refine sn_iald C rfl (by decide) (by omega) (by decide) dX6_round_10 ?_
  exact sn_iret C rfl hF dX6_round_11 (by decide) (by decide) (by exact zU_o (by decide)) rfl rfl rfl

set_option maxRecDepth 100000 in
set_option maxHeartbeats 4000000 in
theorem c_X6_heardTotal {l : Launch} (hl : l.stackTraces = false) {G : zG} {S : zS} {J : Int64} {E : UInt64} {n t : Nat} (hm : mNow S n t)  : nCR l G mX6_heardTotal 7 0 0 [.ref 12] S J E (some (zi (S 13 3))) (zU S 12 0 0) J E := by
  refine nCR.of hl (by decide) rfl (Nat.le_of_ble_eq_true rfl) (ls := [some (.ref 12)]) rfl (fun X C hF hX => ?_)
  subst hX
  obtain ⟨hn, hz, ht, ht4, hls, hrs⟩ := id hm
  refine sw_aload_0 C dX6_heardTotal_0 ?_
  refine sn_iconst C 0 (by decide) dX6_heardTotal_1 ?_
  refine sn_putI C fX6_47 rfl (by decide) rfl rfl dX6_heardTotal_2 ?_
  refine sw_aload_0 C dX6_heardTotal_5 ?_
  refine sw_getR C (o' := 13) fX6_16 rfl (by decide) rfl rfl (by decide) dX6_heardTotal_6 ?_
  refine sn_iconst C 3 (by decide) dX6_heardTotal_9 ?_
  refine sn_iald C rfl (by decide) (by omega) (by decide) dX6_heardTotal_10 ?_
  exact sn_iret C rfl hF dX6_heardTotal_11 (by decide) (by decide) (by exact zU_o (by decide)) rfl rfl rfl

set_option maxRecDepth 100000 in
set_option maxHeartbeats 4000000 in
theorem c_X6_successfulChecks {l : Launch} (hl : l.stackTraces = false) {G : zG} {S : zS} {J : Int64} {E : UInt64} {n t : Nat} (hm : mNow S n t)  : nCR l G mX6_successfulChecks 7 0 0 [.ref 12] S J E (some (zi (S 13 4))) (zU S 12 0 0) J E := by
  refine nCR.of hl (by decide) rfl (Nat.le_of_ble_eq_true rfl) (ls := [some (.ref 12)]) rfl (fun X C hF hX => ?_)
  subst hX
  obtain ⟨hn, hz, ht, ht4, hls, hrs⟩ := id hm
  refine sw_aload_0 C dX6_successfulChecks_0 ?_
  refine sn_iconst C 0 (by decide) dX6_successfulChecks_1 ?_
  refine sn_putI C fX6_47 rfl (by decide) rfl rfl dX6_successfulChecks_2 ?_
  refine sw_aload_0 C dX6_successfulChecks_5 ?_
  refine sw_getR C (o' := 13) fX6_16 rfl (by decide) rfl rfl (by decide) dX6_successfulChecks_6 ?_
  refine sn_iconst C 4 (by decide) dX6_successfulChecks_9 ?_
  refine sn_iald C rfl (by decide) (by omega) (by decide) dX6_successfulChecks_10 ?_
  exact sn_iret C rfl hF dX6_successfulChecks_11 (by decide) (by decide) (by exact zU_o (by decide)) rfl rfl rfl

set_option maxRecDepth 100000 in
set_option maxHeartbeats 4000000 in
theorem c_X6_linkCount {l : Launch} (hl : l.stackTraces = false) {G : zG} {S : zS} {J : Int64} {E : UInt64} {n t : Nat} (hm : mNow S n t)  : nCR l G mX6_linkCount 7 0 0 [.ref 12] S J E (some (zi (mLinks S n))) (zU S 12 0 0) J E := by
  refine nCR.of hl (by decide) rfl (Nat.le_of_ble_eq_true rfl) (ls := [some (.ref 12)]) rfl (fun X C hF hX => ?_)
  subst hX
  obtain ⟨hn, hz, ht, ht4, hls, hrs⟩ := id hm
  refine sw_aload_0 C dX6_linkCount_0 ?_
  refine sn_iconst C 0 (by decide) dX6_linkCount_1 ?_
  refine sn_putI C fX6_47 rfl (by decide) rfl rfl dX6_linkCount_2 ?_
  refine sw_aload_0 C dX6_linkCount_5 ?_
  refine sn_cV0r C vX6_links lX6_99 rfl (by decide) rfl rfl dX6_linkCount_6 (Nat.le_of_ble_eq_true rfl) (c_X6_links hl ((zU_o (by decide)).trans hn) hz (fun e he => by rw [zU_o (by decide)]; exact (hls e he).2.2)) (by decide) (by decide) (by decide) ?_
  exact sn_iret C rfl hF dX6_linkCount_9 (by decide) (by decide) (by first | rfl | (simp [*]; done)) rfl rfl rfl

set_option maxRecDepth 100000 in
set_option maxHeartbeats 4000000 in
theorem c_X6_hive {l : Launch} (hl : l.stackTraces = false) {G : zG} {S : zS} {J : Int64} {E : UInt64} {n t : Nat} (hm : mNow S n t) {x : Nat} (hx : x < 2 ^ 32) : nCR l G mX6_hive 7 0 0 [.ref 12, zi x] S J E (some (zi (if x < n then S 13 (5 + x) else 0))) (zU S 12 0 (if x < n then 0 else 1)) J E := by
  refine nCR.of hl (by decide) rfl (Nat.le_of_ble_eq_true rfl) (ls := [some (.ref 12), some (zi x)]) rfl (fun X C hF hX => ?_)
  subst hX
  obtain ⟨hn, hz, ht, ht4, hls, hrs⟩ := id hm
  refine sw_aload_0 C dX6_hive_0 ?_
  refine sw_aload_0 C dX6_hive_1 ?_
  refine sw_iload_1 C dX6_hive_2 ?_
  refine sn_cV1r C vX6_isEar lX6_88 rfl (by decide) rfl rfl dX6_hive_3 (Nat.le_of_ble_eq_true rfl) (c_X6_isEar hl hn (by omega) hx) (by decide) (by decide) (by decide) ?_
  refine sn_if_eqB C 13 dX6_hive_6 (by decide) (fun c6 => ?_) (fun c6 => ?_)
  · simp only [decide_eq_false_iff_not, decide_eq_true_eq] at c6
    refine sn_iconst C 1 (by decide) dX6_hive_13 ?_
    refine sn_putI C fX6_47 rfl (by decide) rfl rfl dX6_hive_14 ?_
    refine sw_aload_0 C dX6_hive_17 ?_
    refine sn_getIe C (_) zU_s fX6_47 rfl (by decide) rfl dX6_hive_18 ?_
    refine sn_if_ne C 35 (by omega) dX6_hive_21 (by decide) (fun c21 => ?_) (fun c21 => ?_)
    · refine sn_iconst C 0 (by decide) dX6_hive_35 ?_
      exact sn_iret C rfl hF dX6_hive_36 (by decide) (by decide) (by first | (simp [c6, zU]; done) | (exfalso; omega)) (by first | (simp [c6]; done) | (exfalso; omega)) rfl rfl
    · refine sw_aload_0 C dX6_hive_24 ?_
      refine sw_getR C (o' := 13) fX6_16 rfl (by decide) rfl rfl (by decide) dX6_hive_25 ?_
      refine sn_iconst C 5 (by decide) dX6_hive_28 ?_
      refine sw_iload_1 C dX6_hive_29 ?_
      refine sn_iadd C dX6_hive_30 ?_
      refine sn_iald C rfl (by decide) (by omega) (by decide) dX6_hive_31 ?_
      refine sw_goto C 36 dX6_hive_32 (by decide) ?_
      exact sn_iret C rfl hF dX6_hive_36 (by decide) (by decide) (by first | (simp [c6, zU]; done) | (exfalso; omega)) (by first | (simp [c6]; done) | (exfalso; omega)) rfl rfl
  · simp only [decide_eq_false_iff_not, decide_eq_true_eq] at c6
    refine sn_iconst C 0 (by decide) dX6_hive_9 ?_
    refine sw_goto C 14 dX6_hive_10 (by decide) ?_
    refine sn_putI C fX6_47 rfl (by decide) rfl rfl dX6_hive_14 ?_
    refine sw_aload_0 C dX6_hive_17 ?_
    refine sn_getIe C (_) zU_s fX6_47 rfl (by decide) rfl dX6_hive_18 ?_
    refine sn_if_ne C 35 (by omega) dX6_hive_21 (by decide) (fun c21 => ?_) (fun c21 => ?_)
    · refine sn_iconst C 0 (by decide) dX6_hive_35 ?_
      exact sn_iret C rfl hF dX6_hive_36 (by decide) (by decide) (by first | (simp [c6, zU]; done) | (exfalso; omega)) (by first | (simp [c6]; done) | (exfalso; omega)) rfl rfl
    · refine sw_aload_0 C dX6_hive_24 ?_
      refine sw_getR C (o' := 13) fX6_16 rfl (by decide) rfl rfl (by decide) dX6_hive_25 ?_
      refine sn_iconst C 5 (by decide) dX6_hive_28 ?_
      refine sw_iload_1 C dX6_hive_29 ?_
      refine sn_iadd C dX6_hive_30 ?_
      refine sn_iald C rfl (by decide) (by omega) (by decide) dX6_hive_31 ?_
      refine sw_goto C 36 dX6_hive_32 (by decide) ?_
      exact sn_iret C rfl hF dX6_hive_36 (by decide) (by decide) (by first | (simp [c6, zU]; done) | (exfalso; omega)) (by first | (simp [c6]; done) | (exfalso; omega)) rfl rfl

set_option maxRecDepth 100000 in
set_option maxHeartbeats 4000000 in
theorem c_X6_doubt {l : Launch} (hl : l.stackTraces = false) {G : zG} {S : zS} {J : Int64} {E : UInt64} {n t : Nat} (hm : mNow S n t) {x : Nat} (hx : x < 2 ^ 32) : nCR l G mX6_doubt 7 0 0 [.ref 12, zi x] S J E (some (zi (if x < n then S 13 (17 + x) else 0))) (zU S 12 0 (if x < n then 0 else 1)) J E := by
  refine nCR.of hl (by decide) rfl (Nat.le_of_ble_eq_true rfl) (ls := [some (.ref 12), some (zi x)]) rfl (fun X C hF hX => ?_)
  subst hX
  obtain ⟨hn, hz, ht, ht4, hls, hrs⟩ := id hm
  refine sw_aload_0 C dX6_doubt_0 ?_
  refine sw_aload_0 C dX6_doubt_1 ?_
  refine sw_iload_1 C dX6_doubt_2 ?_
  refine sn_cV1r C vX6_isEar lX6_88 rfl (by decide) rfl rfl dX6_doubt_3 (Nat.le_of_ble_eq_true rfl) (c_X6_isEar hl hn (by omega) hx) (by decide) (by decide) (by decide) ?_
  refine sn_if_eqB C 13 dX6_doubt_6 (by decide) (fun c6 => ?_) (fun c6 => ?_)
  · simp only [decide_eq_false_iff_not, decide_eq_true_eq] at c6
    refine sn_iconst C 1 (by decide) dX6_doubt_13 ?_
    refine sn_putI C fX6_47 rfl (by decide) rfl rfl dX6_doubt_14 ?_
    refine sw_aload_0 C dX6_doubt_17 ?_
    refine sn_getIe C (_) zU_s fX6_47 rfl (by decide) rfl dX6_doubt_18 ?_
    refine sn_if_ne C 36 (by omega) dX6_doubt_21 (by decide) (fun c21 => ?_) (fun c21 => ?_)
    · refine sn_iconst C 0 (by decide) dX6_doubt_36 ?_
      exact sn_iret C rfl hF dX6_doubt_37 (by decide) (by decide) (by first | (simp [c6, zU]; done) | (exfalso; omega)) (by first | (simp [c6]; done) | (exfalso; omega)) rfl rfl
    · refine sw_aload_0 C dX6_doubt_24 ?_
      refine sw_getR C (o' := 13) fX6_16 rfl (by decide) rfl rfl (by decide) dX6_doubt_25 ?_
      refine sn_bipush C 17 (by decide) dX6_doubt_28 ?_
      refine sw_iload_1 C dX6_doubt_30 ?_
      refine sn_iadd C dX6_doubt_31 ?_
      refine sn_iald C rfl (by decide) (by omega) (by decide) dX6_doubt_32 ?_
      refine sw_goto C 37 dX6_doubt_33 (by decide) ?_
      exact sn_iret C rfl hF dX6_doubt_37 (by decide) (by decide) (by first | (simp [c6, zU]; done) | (exfalso; omega)) (by first | (simp [c6]; done) | (exfalso; omega)) rfl rfl
  · simp only [decide_eq_false_iff_not, decide_eq_true_eq] at c6
    refine sn_iconst C 0 (by decide) dX6_doubt_9 ?_
    refine sw_goto C 14 dX6_doubt_10 (by decide) ?_
    refine sn_putI C fX6_47 rfl (by decide) rfl rfl dX6_doubt_14 ?_
    refine sw_aload_0 C dX6_doubt_17 ?_
    refine sn_getIe C (_) zU_s fX6_47 rfl (by decide) rfl dX6_doubt_18 ?_
    refine sn_if_ne C 36 (by omega) dX6_doubt_21 (by decide) (fun c21 => ?_) (fun c21 => ?_)
    · refine sn_iconst C 0 (by decide) dX6_doubt_36 ?_
      exact sn_iret C rfl hF dX6_doubt_37 (by decide) (by decide) (by first | (simp [c6, zU]; done) | (exfalso; omega)) (by first | (simp [c6]; done) | (exfalso; omega)) rfl rfl
    · refine sw_aload_0 C dX6_doubt_24 ?_
      refine sw_getR C (o' := 13) fX6_16 rfl (by decide) rfl rfl (by decide) dX6_doubt_25 ?_
      refine sn_bipush C 17 (by decide) dX6_doubt_28 ?_
      refine sw_iload_1 C dX6_doubt_30 ?_
      refine sn_iadd C dX6_doubt_31 ?_
      refine sn_iald C rfl (by decide) (by omega) (by decide) dX6_doubt_32 ?_
      refine sw_goto C 37 dX6_doubt_33 (by decide) ?_
      exact sn_iret C rfl hF dX6_doubt_37 (by decide) (by decide) (by first | (simp [c6, zU]; done) | (exfalso; omega)) (by first | (simp [c6]; done) | (exfalso; omega)) rfl rfl

set_option maxRecDepth 100000 in
set_option maxHeartbeats 4000000 in
theorem c_X6_isLinked {l : Launch} (hl : l.stackTraces = false) {G : zG} {S : zS} {J : Int64} {E : UInt64} {n t : Nat} (hm : mNow S n t) {x y : Nat} (hx : x < 2 ^ 32) (hy : y < 2 ^ 32) : nCR l G mX6_isLinked 7 0 0 [.ref 12, zi x, zi y] S J E (some (zi (decide (x < n ∧ y < n) && (S 13 (29 + x)).testBit y).toNat)) (zU S 12 0 (if x < n ∧ y < n then 0 else 1)) J E := by
  refine nCR.of hl (by decide) rfl (Nat.le_of_ble_eq_true rfl) (ls := [some (.ref 12), some (zi x), some (zi y)]) rfl (fun X C hF hX => ?_)
  subst hX
  obtain ⟨hn, hz, ht, ht4, hls, hrs⟩ := id hm
  refine sw_aload_0 C dX6_isLinked_0 ?_
  refine sw_aload_0 C dX6_isLinked_1 ?_
  refine sw_iload_1 C dX6_isLinked_2 ?_
  refine sn_cV1r C vX6_isEar lX6_88 rfl (by decide) rfl rfl dX6_isLinked_3 (Nat.le_of_ble_eq_true rfl) (c_X6_isEar hl hn (by omega) hx) (by decide) (by decide) (by decide) ?_
  refine sn_if_eqB C 21 dX6_isLinked_6 (by decide) (fun c6 => ?_) (fun c6 => ?_)
  · simp only [decide_eq_false_iff_not, decide_eq_true_eq] at c6
    refine sn_iconst C 1 (by decide) dX6_isLinked_21 ?_
    refine sn_putI C fX6_47 rfl (by decide) rfl rfl dX6_isLinked_22 ?_
    refine sw_aload_0 C dX6_isLinked_25 ?_
    refine sn_getIe C (_) zU_s fX6_47 rfl (by decide) rfl dX6_isLinked_26 ?_
    refine sn_if_ne C 52 (by omega) dX6_isLinked_29 (by decide) (fun c29 => ?_) (fun c29 => ?_)
    · refine sn_iconst C 0 (by decide) dX6_isLinked_52 ?_
      exact sn_zret C (v := false) rfl hF dX6_isLinked_53 (by decide) (by decide) (by first | (simp [c6, c14, c45]; done) | (simp [c6, c14]; done) | (simp [c6]; done) | (exfalso; omega)) (by first | (simp [c6, c14]; done) | (simp [c6]; done) | (exfalso; omega)) rfl rfl
    · refine sw_aload_0 C dX6_isLinked_32 ?_
      refine sw_getR C (o' := 13) fX6_16 rfl (by decide) rfl rfl (by decide) dX6_isLinked_33 ?_
      refine sn_bipush C 29 (by decide) dX6_isLinked_36 ?_
      refine sw_iload_1 C dX6_isLinked_38 ?_
      refine sn_iadd C dX6_isLinked_39 ?_
      refine sn_ialde C (S 13 (29 + x)) (zU_o (by decide)) rfl (by decide) (by omega) (by decide) dX6_isLinked_40 ?_
      refine sw_iload_2 C dX6_isLinked_41 ?_
      refine sn_cS2r C vX6_has lX6_91 dX6_isLinked_42 (Nat.le_of_ble_eq_true rfl) (c_X6_has hl (by have := (hls x (by omega)).2.2; omega) (by omega)) (by decide) (by decide) (by decide) ?_
      refine sn_if_eqB C 52 dX6_isLinked_45 (by decide) (fun c45 => ?_) (fun c45 => ?_)
      · refine sn_iconst C 0 (by decide) dX6_isLinked_52 ?_
        exact sn_zret C (v := false) rfl hF dX6_isLinked_53 (by decide) (by decide) (by first | (simp [c6, c14, c45]; done) | (simp [c6, c14]; done) | (simp [c6]; done) | (exfalso; omega)) (by first | (simp [c6, c14]; done) | (simp [c6]; done) | (exfalso; omega)) rfl rfl
      · refine sn_iconst C 1 (by decide) dX6_isLinked_48 ?_
        refine sw_goto C 53 dX6_isLinked_49 (by decide) ?_
        exact sn_zret C (v := true) rfl hF dX6_isLinked_53 (by decide) (by decide) (by first | (simp [c6, c14, c45]; done) | (simp [c6, c14]; done) | (simp [c6]; done) | (exfalso; omega)) (by first | (simp [c6, c14]; done) | (simp [c6]; done) | (exfalso; omega)) rfl rfl
  · simp only [decide_eq_false_iff_not, decide_eq_true_eq] at c6
    refine sw_aload_0 C dX6_isLinked_9 ?_
    refine sw_iload_2 C dX6_isLinked_10 ?_
    refine sn_cV1r C vX6_isEar lX6_88 rfl (by decide) rfl rfl dX6_isLinked_11 (Nat.le_of_ble_eq_true rfl) (c_X6_isEar hl hn (by omega) hy) (by decide) (by decide) (by decide) ?_
    refine sn_if_eqB C 21 dX6_isLinked_14 (by decide) (fun c14 => ?_) (fun c14 => ?_)
    · simp only [decide_eq_false_iff_not, decide_eq_true_eq] at c14
      refine sn_iconst C 1 (by decide) dX6_isLinked_21 ?_
      refine sn_putI C fX6_47 rfl (by decide) rfl rfl dX6_isLinked_22 ?_
      refine sw_aload_0 C dX6_isLinked_25 ?_
      refine sn_getIe C (_) zU_s fX6_47 rfl (by decide) rfl dX6_isLinked_26 ?_
      refine sn_if_ne C 52 (by omega) dX6_isLinked_29 (by decide) (fun c29 => ?_) (fun c29 => ?_)
      · refine sn_iconst C 0 (by decide) dX6_isLinked_52 ?_
        exact sn_zret C (v := false) rfl hF dX6_isLinked_53 (by decide) (by decide) (by first | (simp [c6, c14, c45]; done) | (simp [c6, c14]; done) | (simp [c6]; done) | (exfalso; omega)) (by first | (simp [c6, c14]; done) | (simp [c6]; done) | (exfalso; omega)) rfl rfl
      · refine sw_aload_0 C dX6_isLinked_32 ?_
        refine sw_getR C (o' := 13) fX6_16 rfl (by decide) rfl rfl (by decide) dX6_isLinked_33 ?_
        refine sn_bipush C 29 (by decide) dX6_isLinked_36 ?_
        refine sw_iload_1 C dX6_isLinked_38 ?_
        refine sn_iadd C dX6_isLinked_39 ?_
        refine sn_ialde C (S 13 (29 + x)) (zU_o (by decide)) rfl (by decide) (by omega) (by decide) dX6_isLinked_40 ?_
        refine sw_iload_2 C dX6_isLinked_41 ?_
        refine sn_cS2r C vX6_has lX6_91 dX6_isLinked_42 (Nat.le_of_ble_eq_true rfl) (c_X6_has hl (by have := (hls x (by omega)).2.2; omega) (by omega)) (by decide) (by decide) (by decide) ?_
        refine sn_if_eqB C 52 dX6_isLinked_45 (by decide) (fun c45 => ?_) (fun c45 => ?_)
        · refine sn_iconst C 0 (by decide) dX6_isLinked_52 ?_
          exact sn_zret C (v := false) rfl hF dX6_isLinked_53 (by decide) (by decide) (by first | (simp [c6, c14, c45]; done) | (simp [c6, c14]; done) | (simp [c6]; done) | (exfalso; omega)) (by first | (simp [c6, c14]; done) | (simp [c6]; done) | (exfalso; omega)) rfl rfl
        · refine sn_iconst C 1 (by decide) dX6_isLinked_48 ?_
          refine sw_goto C 53 dX6_isLinked_49 (by decide) ?_
          exact sn_zret C (v := true) rfl hF dX6_isLinked_53 (by decide) (by decide) (by first | (simp [c6, c14, c45]; done) | (simp [c6, c14]; done) | (simp [c6]; done) | (exfalso; omega)) (by first | (simp [c6, c14]; done) | (simp [c6]; done) | (exfalso; omega)) rfl rfl
    · simp only [decide_eq_false_iff_not, decide_eq_true_eq] at c14
      refine sn_iconst C 0 (by decide) dX6_isLinked_17 ?_
      refine sw_goto C 22 dX6_isLinked_18 (by decide) ?_
      refine sn_putI C fX6_47 rfl (by decide) rfl rfl dX6_isLinked_22 ?_
      refine sw_aload_0 C dX6_isLinked_25 ?_
      refine sn_getIe C (_) zU_s fX6_47 rfl (by decide) rfl dX6_isLinked_26 ?_
      refine sn_if_ne C 52 (by omega) dX6_isLinked_29 (by decide) (fun c29 => ?_) (fun c29 => ?_)
      · refine sn_iconst C 0 (by decide) dX6_isLinked_52 ?_
        exact sn_zret C (v := false) rfl hF dX6_isLinked_53 (by decide) (by decide) (by first | (simp [c6, c14, c45]; done) | (simp [c6, c14]; done) | (simp [c6]; done) | (exfalso; omega)) (by first | (simp [c6, c14]; done) | (simp [c6]; done) | (exfalso; omega)) rfl rfl
      · refine sw_aload_0 C dX6_isLinked_32 ?_
        refine sw_getR C (o' := 13) fX6_16 rfl (by decide) rfl rfl (by decide) dX6_isLinked_33 ?_
        refine sn_bipush C 29 (by decide) dX6_isLinked_36 ?_
        refine sw_iload_1 C dX6_isLinked_38 ?_
        refine sn_iadd C dX6_isLinked_39 ?_
        refine sn_ialde C (S 13 (29 + x)) (zU_o (by decide)) rfl (by decide) (by omega) (by decide) dX6_isLinked_40 ?_
        refine sw_iload_2 C dX6_isLinked_41 ?_
        refine sn_cS2r C vX6_has lX6_91 dX6_isLinked_42 (Nat.le_of_ble_eq_true rfl) (c_X6_has hl (by have := (hls x (by omega)).2.2; omega) (by omega)) (by decide) (by decide) (by decide) ?_
        refine sn_if_eqB C 52 dX6_isLinked_45 (by decide) (fun c45 => ?_) (fun c45 => ?_)
        · refine sn_iconst C 0 (by decide) dX6_isLinked_52 ?_
          exact sn_zret C (v := false) rfl hF dX6_isLinked_53 (by decide) (by decide) (by first | (simp [c6, c14, c45]; done) | (simp [c6, c14]; done) | (simp [c6]; done) | (exfalso; omega)) (by first | (simp [c6, c14]; done) | (simp [c6]; done) | (exfalso; omega)) rfl rfl
        · refine sn_iconst C 1 (by decide) dX6_isLinked_48 ?_
          refine sw_goto C 53 dX6_isLinked_49 (by decide) ?_
          exact sn_zret C (v := true) rfl hF dX6_isLinked_53 (by decide) (by decide) (by first | (simp [c6, c14, c45]; done) | (simp [c6, c14]; done) | (simp [c6]; done) | (exfalso; omega)) (by first | (simp [c6, c14]; done) | (simp [c6]; done) | (exfalso; omega)) rfl rfl

set_option maxRecDepth 100000 in
set_option maxHeartbeats 4000000 in
theorem c_X6_neighbourCount {l : Launch} (hl : l.stackTraces = false) {G : zG} {S : zS} {J : Int64} {E : UInt64} {n t : Nat} (hm : mNow S n t) {x : Nat} (hx : x < 2 ^ 32) : nCR l G mX6_neighbourCount 7 0 0 [.ref 12, zi x] S J E (some (zi (if x < n then zpop (S 13 (29 + x)) else 0))) (zU S 12 0 (if x < n then 0 else 1)) J E := by
  refine nCR.of hl (by decide) rfl (Nat.le_of_ble_eq_true rfl) (ls := [some (.ref 12), some (zi x)]) rfl (fun X C hF hX => ?_)
  subst hX
  obtain ⟨hn, hz, ht, ht4, hls, hrs⟩ := id hm
  refine sw_aload_0 C dX6_neighbourCount_0 ?_
  refine sw_aload_0 C dX6_neighbourCount_1 ?_
  refine sw_iload_1 C dX6_neighbourCount_2 ?_
  refine sn_cV1r C vX6_isEar lX6_88 rfl (by decide) rfl rfl dX6_neighbourCount_3 (Nat.le_of_ble_eq_true rfl) (c_X6_isEar hl hn (by omega) hx) (by decide) (by decide) (by decide) ?_
  refine sn_if_eqB C 13 dX6_neighbourCount_6 (by decide) (fun c6 => ?_) (fun c6 => ?_)
  · simp only [decide_eq_false_iff_not, decide_eq_true_eq] at c6
    refine sn_iconst C 1 (by decide) dX6_neighbourCount_13 ?_
    refine sn_putI C fX6_47 rfl (by decide) rfl rfl dX6_neighbourCount_14 ?_
    refine sw_aload_0 C dX6_neighbourCount_17 ?_
    refine sn_getIe C (_) zU_s fX6_47 rfl (by decide) rfl dX6_neighbourCount_18 ?_
    refine sn_if_ne C 39 (by omega) dX6_neighbourCount_21 (by decide) (fun c21 => ?_) (fun c21 => ?_)
    · refine sn_iconst C 0 (by decide) dX6_neighbourCount_39 ?_
      exact sn_iret C rfl hF dX6_neighbourCount_40 (by decide) (by decide) (by first | (simp [c6, zU]; done) | (exfalso; omega)) (by first | (simp [c6]; done) | (exfalso; omega)) rfl rfl
    · refine sw_aload_0 C dX6_neighbourCount_24 ?_
      refine sw_getR C (o' := 13) fX6_16 rfl (by decide) rfl rfl (by decide) dX6_neighbourCount_25 ?_
      refine sn_bipush C 29 (by decide) dX6_neighbourCount_28 ?_
      refine sw_iload_1 C dX6_neighbourCount_30 ?_
      refine sn_iadd C dX6_neighbourCount_31 ?_
      refine sn_ialde C (S 13 (29 + x)) (zU_o (by decide)) rfl (by decide) (by omega) (by decide) dX6_neighbourCount_32 ?_
      refine sn_cS1r C vX6_bits lX6_85 dX6_neighbourCount_33 (Nat.le_of_ble_eq_true rfl) (c_X6_bits hl (hls x (by omega)).2.2) (by decide) (by decide) (by decide) ?_
      refine sw_goto C 40 dX6_neighbourCount_36 (by decide) ?_
      exact sn_iret C rfl hF dX6_neighbourCount_40 (by decide) (by decide) (by first | (simp [c6, zU]; done) | (exfalso; omega)) (by first | (simp [c6]; done) | (exfalso; omega)) rfl rfl
  · simp only [decide_eq_false_iff_not, decide_eq_true_eq] at c6
    refine sn_iconst C 0 (by decide) dX6_neighbourCount_9 ?_
    refine sw_goto C 14 dX6_neighbourCount_10 (by decide) ?_
    refine sn_putI C fX6_47 rfl (by decide) rfl rfl dX6_neighbourCount_14 ?_
    refine sw_aload_0 C dX6_neighbourCount_17 ?_
    refine sn_getIe C (_) zU_s fX6_47 rfl (by decide) rfl dX6_neighbourCount_18 ?_
    refine sn_if_ne C 39 (by omega) dX6_neighbourCount_21 (by decide) (fun c21 => ?_) (fun c21 => ?_)
    · refine sn_iconst C 0 (by decide) dX6_neighbourCount_39 ?_
      exact sn_iret C rfl hF dX6_neighbourCount_40 (by decide) (by decide) (by first | (simp [c6, zU]; done) | (exfalso; omega)) (by first | (simp [c6]; done) | (exfalso; omega)) rfl rfl
    · refine sw_aload_0 C dX6_neighbourCount_24 ?_
      refine sw_getR C (o' := 13) fX6_16 rfl (by decide) rfl rfl (by decide) dX6_neighbourCount_25 ?_
      refine sn_bipush C 29 (by decide) dX6_neighbourCount_28 ?_
      refine sw_iload_1 C dX6_neighbourCount_30 ?_
      refine sn_iadd C dX6_neighbourCount_31 ?_
      refine sn_ialde C (S 13 (29 + x)) (zU_o (by decide)) rfl (by decide) (by omega) (by decide) dX6_neighbourCount_32 ?_
      refine sn_cS1r C vX6_bits lX6_85 dX6_neighbourCount_33 (Nat.le_of_ble_eq_true rfl) (c_X6_bits hl (hls x (by omega)).2.2) (by decide) (by decide) (by decide) ?_
      refine sw_goto C 40 dX6_neighbourCount_36 (by decide) ?_
      exact sn_iret C rfl hF dX6_neighbourCount_40 (by decide) (by decide) (by first | (simp [c6, zU]; done) | (exfalso; omega)) (by first | (simp [c6]; done) | (exfalso; omega)) rfl rfl

set_option maxRecDepth 100000 in
set_option maxHeartbeats 4000000 in
theorem c_X6_hiveSize {l : Launch} (hl : l.stackTraces = false) {G : zG} {S : zS} {J : Int64} {E : UInt64} {n t : Nat} (hm : mNow S n t) {x : Nat} (hx : x < 2 ^ 32) : nCR l G mX6_hiveSize 7 0 0 [.ref 12, zi x] S J E (some (zi (zcnt n (fun e => decide (S 13 (5 + e) = x))))) (zU S 12 0 (if x < 4 then 0 else 1)) J E := by
  refine nCR.of hl (by decide) rfl (Nat.le_of_ble_eq_true rfl) (ls := [some (.ref 12), some (zi x), none, none]) rfl (fun X C hF hX => ?_)
  subst hX
  obtain ⟨hn, hz, ht, ht4, hls, hrs⟩ := id hm
  refine sw_aload_0 C dX6_hiveSize_0 ?_
  refine sw_iload_1 C dX6_hiveSize_1 ?_
  refine sn_cS1r C vX6_isHive lX6_65 dX6_hiveSize_2 (Nat.le_of_ble_eq_true rfl) (c_X6_isHive hl hx) (by decide) (by decide) (by decide) ?_
  refine sn_if_eqB C 12 dX6_hiveSize_5 (by decide) (fun c5 => ?_) (fun c5 => ?_)
  · simp only [decide_eq_false_iff_not, decide_eq_true_eq] at c5
    refine sn_iconst C 1 (by decide) dX6_hiveSize_12 ?_
    refine sn_putI C fX6_47 rfl (by decide) rfl rfl dX6_hiveSize_13 ?_
    refine sn_iconst C 0 (by decide) dX6_hiveSize_16 ?_
    refine sw_istore_2 C rfl dX6_hiveSize_17 ?_
    refine sn_iconst C 0 (by decide) dX6_hiveSize_18 ?_
    refine sw_istore_3 C rfl dX6_hiveSize_19 ?_
    have L20 : ∀ (kM i : Nat) (m : Nat) (c : Nat), i ≤ n → (c = if x < 4 then 0 else 1) → (m = zcnt i (fun e => decide (S 13 (5 + e) = x))) → n - i < kM → SN G X 0 0 20 [some (.ref 12), some (zi x), some (zi m), some (zi i)] [] (zU S 12 0 c) J E := by
      intro kM
      induction kM with
      | zero => intro i m c _ _ _ hkM; exact absurd hkM (by omega)
      | succ kM ih20 =>
        intro i m c hi hc hq hkM
        refine sw_iload_3 C dX6_hiveSize_20 ?_
        refine sw_aload_0 C dX6_hiveSize_21 ?_
        refine sw_getR C (o' := 13) fX6_16 rfl (by decide) rfl rfl (by decide) dX6_hiveSize_22 ?_
        refine sn_iconst C 0 (by decide) dX6_hiveSize_25 ?_
        refine sn_ialde C (n) ((zU_o (by decide)).trans hn) rfl (by decide) (by omega) (by decide) dX6_hiveSize_26 ?_
        refine sn_icmp_ge C 56 (by omega) (by omega) dX6_hiveSize_27 (by decide) (fun c27 => ?_) (fun c27 => ?_)
        · refine sw_iload_2 C dX6_hiveSize_56 ?_
          exact sn_iret C rfl hF dX6_hiveSize_57 (by decide) (by decide) (by rw [hq, show i = n from by omega]) (by rw [hc]) rfl rfl
        · refine sw_iload_2 C dX6_hiveSize_30 ?_
          refine sw_aload_0 C dX6_hiveSize_31 ?_
          refine sw_getR C (o' := 13) fX6_16 rfl (by decide) rfl rfl (by decide) dX6_hiveSize_32 ?_
          refine sn_iconst C 5 (by decide) dX6_hiveSize_35 ?_
          refine sw_iload_3 C dX6_hiveSize_36 ?_
          refine sn_iadd C dX6_hiveSize_37 ?_
          refine sn_ialde C (S 13 (5 + i)) (zU_o (by decide)) rfl (by decide) (by omega) (by decide) dX6_hiveSize_38 ?_
          refine sw_iload_1 C dX6_hiveSize_39 ?_
          refine sn_icmp_ne C 47 (by have := (hls i (by omega)).1; omega) hx dX6_hiveSize_40 (by decide) (fun c40 => ?_) (fun c40 => ?_)
          · refine sn_iconst C 0 (by decide) dX6_hiveSize_47 ?_
            refine sn_iadd C dX6_hiveSize_48 ?_
            refine sw_istore_2 C rfl dX6_hiveSize_49 ?_
            refine sn_iinc_3 C rfl dX6_hiveSize_50 ?_
            refine sw_goto C 20 dX6_hiveSize_53 (by decide) ?_
            exact ih20 (i + 1) _ _ (by omega) hc (by rw [zcnt, zIt, ← zcnt, ← hq]; simp [c40]) (by omega)
          · refine sn_iconst C 1 (by decide) dX6_hiveSize_43 ?_
            refine sw_goto C 48 dX6_hiveSize_44 (by decide) ?_
            refine sn_iadd C dX6_hiveSize_48 ?_
            refine sw_istore_2 C rfl dX6_hiveSize_49 ?_
            refine sn_iinc_3 C rfl dX6_hiveSize_50 ?_
            refine sw_goto C 20 dX6_hiveSize_53 (by decide) ?_
            exact ih20 (i + 1) _ _ (by omega) hc (by rw [zcnt, zIt, ← zcnt, ← hq]; simp [c40]) (by omega)
    exact L20 _ 0 _ _ (by omega) (by simp [c5]) rfl (Nat.lt_succ_self _)
  · simp only [decide_eq_false_iff_not, decide_eq_true_eq] at c5
    refine sn_iconst C 0 (by decide) dX6_hiveSize_8 ?_
    refine sw_goto C 13 dX6_hiveSize_9 (by decide) ?_
    refine sn_putI C fX6_47 rfl (by decide) rfl rfl dX6_hiveSize_13 ?_
    refine sn_iconst C 0 (by decide) dX6_hiveSize_16 ?_
    refine sw_istore_2 C rfl dX6_hiveSize_17 ?_
    refine sn_iconst C 0 (by decide) dX6_hiveSize_18 ?_
    refine sw_istore_3 C rfl dX6_hiveSize_19 ?_
    have L20 : ∀ (kM i : Nat) (m : Nat) (c : Nat), i ≤ n → (c = if x < 4 then 0 else 1) → (m = zcnt i (fun e => decide (S 13 (5 + e) = x))) → n - i < kM → SN G X 0 0 20 [some (.ref 12), some (zi x), some (zi m), some (zi i)] [] (zU S 12 0 c) J E := by
      intro kM
      induction kM with
      | zero => intro i m c _ _ _ hkM; exact absurd hkM (by omega)
      | succ kM ih20 =>
        intro i m c hi hc hq hkM
        refine sw_iload_3 C dX6_hiveSize_20 ?_
        refine sw_aload_0 C dX6_hiveSize_21 ?_
        refine sw_getR C (o' := 13) fX6_16 rfl (by decide) rfl rfl (by decide) dX6_hiveSize_22 ?_
        refine sn_iconst C 0 (by decide) dX6_hiveSize_25 ?_
        refine sn_ialde C (n) ((zU_o (by decide)).trans hn) rfl (by decide) (by omega) (by decide) dX6_hiveSize_26 ?_
        refine sn_icmp_ge C 56 (by omega) (by omega) dX6_hiveSize_27 (by decide) (fun c27 => ?_) (fun c27 => ?_)
        · refine sw_iload_2 C dX6_hiveSize_56 ?_
          exact sn_iret C rfl hF dX6_hiveSize_57 (by decide) (by decide) (by rw [hq, show i = n from by omega]) (by rw [hc]) rfl rfl
        · refine sw_iload_2 C dX6_hiveSize_30 ?_
          refine sw_aload_0 C dX6_hiveSize_31 ?_
          refine sw_getR C (o' := 13) fX6_16 rfl (by decide) rfl rfl (by decide) dX6_hiveSize_32 ?_
          refine sn_iconst C 5 (by decide) dX6_hiveSize_35 ?_
          refine sw_iload_3 C dX6_hiveSize_36 ?_
          refine sn_iadd C dX6_hiveSize_37 ?_
          refine sn_ialde C (S 13 (5 + i)) (zU_o (by decide)) rfl (by decide) (by omega) (by decide) dX6_hiveSize_38 ?_
          refine sw_iload_1 C dX6_hiveSize_39 ?_
          refine sn_icmp_ne C 47 (by have := (hls i (by omega)).1; omega) hx dX6_hiveSize_40 (by decide) (fun c40 => ?_) (fun c40 => ?_)
          · refine sn_iconst C 0 (by decide) dX6_hiveSize_47 ?_
            refine sn_iadd C dX6_hiveSize_48 ?_
            refine sw_istore_2 C rfl dX6_hiveSize_49 ?_
            refine sn_iinc_3 C rfl dX6_hiveSize_50 ?_
            refine sw_goto C 20 dX6_hiveSize_53 (by decide) ?_
            exact ih20 (i + 1) _ _ (by omega) hc (by rw [zcnt, zIt, ← zcnt, ← hq]; simp [c40]) (by omega)
          · refine sn_iconst C 1 (by decide) dX6_hiveSize_43 ?_
            refine sw_goto C 48 dX6_hiveSize_44 (by decide) ?_
            refine sn_iadd C dX6_hiveSize_48 ?_
            refine sw_istore_2 C rfl dX6_hiveSize_49 ?_
            refine sn_iinc_3 C rfl dX6_hiveSize_50 ?_
            refine sw_goto C 20 dX6_hiveSize_53 (by decide) ?_
            exact ih20 (i + 1) _ _ (by omega) hc (by rw [zcnt, zIt, ← zcnt, ← hq]; simp [c40]) (by omega)
    exact L20 _ 0 _ _ (by omega) (by simp [c5]) rfl (Nat.lt_succ_self _)

/-! what is reached: rows as functions -/
def rStep (V : Nat → Nat) (n w g : Nat) : Nat := zIt (fun e s => if w.testBit e = true then s ||| V (29 + e) else s) n g
def rE (V : Nat → Nat) (n g i : Nat) : Nat := zIt (fun _ s => rStep V n s s) i g
def rClo (V : Nat → Nat) (n g : Nat) : Nat := rE V n g 12
theorem zIt_mono {n : Nat} {f : Nat → Nat → Nat} (hf : ∀ i s k, s.testBit k = true → (f i s).testBit k = true) (g k : Nat) (h : g.testBit k = true) : (zIt f n g).testBit k = true :=
  zIt_inv (fun s => s.testBit k = true) h (fun i s _ hs => hf i s k hs)
theorem rStep_mono {V : Nat → Nat} {n w g k : Nat} (h : g.testBit k = true) : (rStep V n w g).testBit k = true := by
  refine zIt_mono (fun i s k hs => ?_) g k h
  split
  · rw [Nat.testBit_or, hs]; rfl
  · exact hs
theorem rStep_lt {V : Nat → Nat} {n w g : Nat} (hn : n ≤ 12) (hV : ∀ e, e < 12 → V (29 + e) < 4096) (hg : g < 4096) : rStep V n w g < 4096 := by
  refine zIt_inv (fun s => s < 4096) hg (fun i s hi hs => ?_)
  try dsimp only
  split
  · exact zOr_lt hs (hV i (by omega))
  · exact hs
theorem rE_lt {V : Nat → Nat} {n g i : Nat} (hn : n ≤ 12) (hV : ∀ e, e < 12 → V (29 + e) < 4096) (hg : g < 4096) : rE V n g i < 4096 := zIt_inv (fun s => s < 4096) hg (fun _ _ _ hs => rStep_lt hn hV hs)
theorem zcnt_lt {n : Nat} {p q : Nat → Bool} (h : ∀ i, p i = true → q i = true) {k : Nat} (hk : k < n) (hp : p k = false) (hq : q k = true) : zcnt n p < zcnt n q := by
  induction n with
  | zero => omega
  | succ n ih =>
    have e1 : zcnt (n + 1) p = zcnt n p + (p n).toNat := rfl
    have e2 : zcnt (n + 1) q = zcnt n q + (q n).toNat := rfl
    rw [e1, e2]
    by_cases hkn : k = n
    · subst hkn
      rw [hp, hq]
      have := zcnt_mono (n := k) h
      simp; omega
    · have h1 := ih (by omega)
      have h2 : (p n).toNat ≤ (q n).toNat := by
        cases e : p n with
        | false => simp
        | true => rw [h n e]; simp
      omega
theorem zpop_lt {a b : Nat} (ha : a < 4096) (hb : b < 4096) (h : ∀ k, a.testBit k = true → b.testBit k = true) (hne : ¬ a = b) : zpop a < zpop b := by
  have : ∃ k, a.testBit k ≠ b.testBit k := by
    apply Classical.byContradiction
    intro hc
    exact hne (Nat.eq_of_testBit_eq (fun k => Classical.byContradiction (fun q => hc ⟨k, q⟩)))
  obtain ⟨k, hk⟩ := this
  have hk2 : a.testBit k = false ∧ b.testBit k = true := by
    cases ea : a.testBit k with
    | true => exact absurd ((h k ea).symm ▸ ea) (by rw [ea, h k ea] at hk; exact absurd rfl hk)
    | false =>
      refine ⟨rfl, ?_⟩
      cases eb : b.testBit k with
      | true => rfl
      | false => rw [ea, eb] at hk; exact absurd rfl hk
  have hk12 : k < 12 := by
    apply Classical.byContradiction
    intro hc
    have h1 : b < 2 ^ k := Nat.lt_of_lt_of_le hb (Nat.pow_le_pow_right (n := 2) (by decide) (show 12 ≤ k by omega))
    rw [Nat.testBit_lt_two_pow h1] at hk2
    exact absurd hk2.2 (by decide)
  exact zcnt_lt h hk12 hk2.1 hk2.2
theorem rE_s {V : Nat → Nat} {n g i : Nat} : rE V n g (i + 1) = rStep V n (rE V n g i) (rE V n g i) := rfl
theorem rE_stable {V : Nat → Nat} {n g i : Nat} (h : rE V n g (i + 1) = rE V n g i) : ∀ k, rE V n g (i + k) = rE V n g i := by
  intro k
  induction k with
  | zero => rfl
  | succ k ih => rw [← Nat.add_assoc, rE_s, ih, ← rE_s, h]

set_option maxRecDepth 100000 in
set_option maxHeartbeats 4000000 in
theorem c_X6_reached {l : Launch} (hl : l.stackTraces = false) {G : zG} {S : zS} {J : Int64} {E : UInt64} {V : Nat → Nat} (hV : S 13 = V) {n : Nat} (hn : V 0 = n) (hz : n ≤ 12) (hls : ∀ e, e < 12 → V (29 + e) < 4096) {g : Nat} (hg : g < 4096) : nCR l G mX6_reached 1 0 0 [.ref 12, zi g] S J E (some (zi (rClo V n g))) S J E := by
  refine nCR.of hl (by decide) rfl (Nat.le_of_ble_eq_true rfl) (ls := [some (.ref 12), some (zi g), none, none, none]) rfl (fun X C hF hX => ?_)
  subst hX
  subst hV
  refine sw_iload_1 C dX6_reached_0 ?_
  refine sw_istore_2 C rfl dX6_reached_1 ?_
  refine sn_iconst C 0 (by decide) dX6_reached_2 ?_
  refine sw_istore_3 C rfl dX6_reached_3 ?_
  have L4 : ∀ (kM i : Nat) (s : Nat) (w : Nat) (u : Option Value), i ≤ 13 → (s = rE (S 13) n g i) → ((i = 0 ∧ w = 0) ∨ (1 ≤ i ∧ i ≤ zpop w + 1 ∧ w = rE (S 13) n g (i - 1))) → 13 - i < kM → SN G X 0 0 4 [some (.ref 12), some (zi g), some (zi s), some (zi w), u] [] S J E := by
    intro kM
    induction kM with
    | zero => intro i s w u _ _ _ hkM; exact absurd hkM (by omega)
    | succ kM ih4 =>
      intro i s w u hi hs hw hkM
      have hs4 : s < 4096 := by rw [hs]; exact rE_lt hz hls hg
      have hw4 : w < 4096 := by
        rcases hw with hw | hw
        · omega
        · rw [hw.2.2]; exact rE_lt hz hls hg
      refine sw_iload_2 C dX6_reached_4 ?_
      refine sw_iload_3 C dX6_reached_5 ?_
      refine sn_icmp_eq C 56 (by omega) (by omega) dX6_reached_6 (by decide) (fun c6 => ?_) (fun c6 => ?_)
      · refine sw_iload_2 C dX6_reached_56 ?_
        exact sn_iret C rfl hF dX6_reached_57 (by decide) (by decide) (by
            rcases hw with hw | hw
            · have hg0 : s = 0 := by omega
              have : rE (S 13) n g 0 = g := rfl
              rw [hw.1] at hs
              have hg1 : g = 0 := by rw [← this, ← hs, hg0]
              subst hg1
              rw [hg0]
              unfold rClo rE
              refine (zIt_inv (fun s => s = 0) rfl (fun i q _ hq => ?_)).symm
              subst hq
              unfold rStep
              exact zIt_inv (fun s => s = 0) rfl (fun i q _ hq => by subst hq; simp)
            · obtain ⟨h1, h2, h3⟩ := hw
              have h5 := zpop_le w
              have h4 : rE (S 13) n g (i - 1 + 1) = rE (S 13) n g (i - 1) := by rw [show i - 1 + 1 = i from by omega, ← hs, ← h3]; exact c6
              have h6 := rE_stable h4 (12 - (i - 1))
              rw [show i - 1 + (12 - (i - 1)) = 12 from by omega] at h6
              unfold rClo
              rw [h6, ← h3]; exact c6) rfl rfl rfl
      · have hin : i + 1 ≤ zpop s + 1 := by
          rcases hw with hw | hw
          · omega
          · obtain ⟨h1, h2, h3⟩ := hw
            have h4 : ∀ k, w.testBit k = true → s.testBit k = true := fun k hk => by rw [hs, show i = i - 1 + 1 from by omega, rE_s, ← h3]; exact rStep_mono hk
            have := zpop_lt hw4 hs4 h4 (fun h => c6 h.symm)
            omega
        have hle := zpop_le s
        refine sw_iload_2 C dX6_reached_9 ?_
        refine sw_istore_3 C rfl dX6_reached_10 ?_
        refine sn_iconst C 0 (by decide) dX6_reached_11 ?_
        refine sw_istore_4 C rfl dX6_reached_12 ?_
        have L14 : ∀ (kM j : Nat) (r : Nat), j ≤ n → (r = zIt (fun e q => if s.testBit e = true then q ||| S 13 (29 + e) else q) j s) → n - j < kM → SN G X 0 0 14 [some (.ref 12), some (zi g), some (zi r), some (zi s), some (zi j)] [] S J E := by
          intro kM
          induction kM with
          | zero => intro j r _ _ hkM; exact absurd hkM (by omega)
          | succ kM ih14 =>
            intro j r hj hr hkM
            refine sw_iload_4 C dX6_reached_14 ?_
            refine sw_aload_0 C dX6_reached_16 ?_
            refine sw_getR C (o' := 13) fX6_16 rfl (by decide) rfl rfl (by decide) dX6_reached_17 ?_
            refine sn_iconst C 0 (by decide) dX6_reached_20 ?_
            refine sn_ialde C (n) hn rfl (by decide) (by omega) (by decide) dX6_reached_21 ?_
            refine sn_icmp_ge C 53 (by omega) (by omega) dX6_reached_22 (by decide) (fun c22 => ?_) (fun c22 => ?_)
            · have ht0 : rStep (S 13) n s s = r := by rw [hr, show j = n from by omega]; rfl
              refine sw_goto C 4 dX6_reached_53 (by decide) ?_
              exact ih4 (i + 1) _ _ _ (by omega) (by rw [rE_s, ← hs, ht0]) (Or.inr ⟨by omega, hin, hs⟩) (by omega)
            · refine sw_iload_3 C dX6_reached_25 ?_
              refine sw_iload_4 C dX6_reached_26 ?_
              refine sn_cS2r C vX6_has lX6_91 dX6_reached_28 (Nat.le_of_ble_eq_true rfl) (c_X6_has hl (by omega) (by omega)) (by decide) (by decide) (by decide) ?_
              refine sn_if_eqB C 47 dX6_reached_31 (by decide) (fun c31 => ?_) (fun c31 => ?_)
              · refine sn_iinc_4 C rfl dX6_reached_47 ?_
                refine sw_goto C 14 dX6_reached_50 (by decide) ?_
                exact ih14 (j + 1) _ (by omega) (by rw [zIt, ← hr]; simp [c31]) (by omega)
              · refine sw_iload_2 C dX6_reached_34 ?_
                refine sw_aload_0 C dX6_reached_35 ?_
                refine sw_getR C (o' := 13) fX6_16 rfl (by decide) rfl rfl (by decide) dX6_reached_36 ?_
                refine sn_bipush C 29 (by decide) dX6_reached_39 ?_
                refine sw_iload_4 C dX6_reached_41 ?_
                refine sn_iadd C dX6_reached_43 ?_
                refine sn_iald C rfl (by decide) (by omega) (by decide) dX6_reached_44 ?_
                refine sn_ior C dX6_reached_45 ?_
                refine sw_istore_2 C rfl dX6_reached_46 ?_
                refine sn_iinc_4 C rfl dX6_reached_47 ?_
                refine sw_goto C 14 dX6_reached_50 (by decide) ?_
                exact ih14 (j + 1) _ (by omega) (by rw [zIt, ← hr]; simp [c31]) (by omega)
        exact L14 _ 0 _ (by omega) rfl (Nat.lt_succ_self _)
  exact L4 _ 0 _ _ _ (by omega) rfl (Or.inl ⟨rfl, rfl⟩) (Nat.lt_succ_self _)

set_option maxRecDepth 100000 in
set_option maxHeartbeats 4000000 in
theorem c_X6_componentCount {l : Launch} (hl : l.stackTraces = false) {G : zG} {S : zS} {J : Int64} {E : UInt64} {n t : Nat} (hm : mNow S n t)  : nCR l G mX6_componentCount 7 0 0 [.ref 12] S J E (some (zi (zcnt n (fun e => rClo (S 13) n (1 * 2 ^ e) &&& (1 * 2 ^ e - 1) == 0)))) (zU S 12 0 0) J E := by
  refine nCR.of hl (by decide) rfl (Nat.le_of_ble_eq_true rfl) (ls := [some (.ref 12), none, none]) rfl (fun X C hF hX => ?_)
  subst hX
  obtain ⟨hn, hz, ht, ht4, hls, hrs⟩ := id hm
  refine sw_aload_0 C dX6_componentCount_0 ?_
  refine sn_iconst C 0 (by decide) dX6_componentCount_1 ?_
  refine sn_putI C fX6_47 rfl (by decide) rfl rfl dX6_componentCount_2 ?_
  refine sn_iconst C 0 (by decide) dX6_componentCount_5 ?_
  refine sw_istore_1 C rfl dX6_componentCount_6 ?_
  refine sn_iconst C 0 (by decide) dX6_componentCount_7 ?_
  refine sw_istore_2 C rfl dX6_componentCount_8 ?_
  have L9 : ∀ (kM i : Nat) (c : Nat), i ≤ n → (c = zcnt i (fun e => rClo (S 13) n (1 * 2 ^ e) &&& (1 * 2 ^ e - 1) == 0)) → n - i < kM → SN G X 0 0 9 [some (.ref 12), some (zi c), some (zi i)] [] (zU S 12 0 0) J E := by
    intro kM
    induction kM with
    | zero => intro i c _ _ hkM; exact absurd hkM (by omega)
    | succ kM ih9 =>
      intro i c hi hc hkM
      have hcl : rClo (S 13) n (1 * 2 ^ i) &&& (1 * 2 ^ i - 1) < 2 ^ 32 ∨ n ≤ i := by
        by_cases h : i < n
        · left; exact Nat.lt_of_le_of_lt Nat.and_le_left (Nat.lt_of_lt_of_le (rE_lt hz (fun e he => (hls e he).2.2) (zBit_lt (by omega))) (by decide))
        · right; omega
      refine sw_iload_2 C dX6_componentCount_9 ?_
      refine sw_aload_0 C dX6_componentCount_10 ?_
      refine sw_getR C (o' := 13) fX6_16 rfl (by decide) rfl rfl (by decide) dX6_componentCount_11 ?_
      refine sn_iconst C 0 (by decide) dX6_componentCount_14 ?_
      refine sn_ialde C (n) ((zU_o (by decide)).trans hn) rfl (by decide) (by omega) (by decide) dX6_componentCount_15 ?_
      refine sn_icmp_ge C 49 (by omega) (by omega) dX6_componentCount_16 (by decide) (fun c16 => ?_) (fun c16 => ?_)
      · refine sw_iload_1 C dX6_componentCount_49 ?_
        exact sn_iret C rfl hF dX6_componentCount_50 (by decide) (by decide) (by rw [hc, show i = n from by omega]) rfl rfl rfl
      · refine sw_iload_1 C dX6_componentCount_19 ?_
        refine sw_aload_0 C dX6_componentCount_20 ?_
        refine sn_iconst C 1 (by decide) dX6_componentCount_21 ?_
        refine sw_iload_2 C dX6_componentCount_22 ?_
        refine sn_ishl C (by omega) dX6_componentCount_23 ?_
        refine sn_cV1r C vX6_reached lX6_145 rfl (by decide) rfl rfl dX6_componentCount_24 (Nat.le_of_ble_eq_true rfl) (c_X6_reached hl (V := S 13) (funext (fun b => zU_o (by decide))) hn hz (fun e he => (hls e he).2.2) (zBit_lt (by omega))) (by decide) (by decide) (by decide) ?_
        refine sn_iconst C 1 (by decide) dX6_componentCount_27 ?_
        refine sw_iload_2 C dX6_componentCount_28 ?_
        refine sn_ishl C (by omega) dX6_componentCount_29 ?_
        refine sn_iconst C 1 (by decide) dX6_componentCount_30 ?_
        refine sn_isub C (by have := Nat.one_le_two_pow (n := i); omega) dX6_componentCount_31 ?_
        refine sn_iand C dX6_componentCount_32 ?_
        refine sn_if_ne C 40 (by omega) dX6_componentCount_33 (by decide) (fun c33 => ?_) (fun c33 => ?_)
        · refine sn_iconst C 0 (by decide) dX6_componentCount_40 ?_
          refine sn_iadd C dX6_componentCount_41 ?_
          refine sw_istore_1 C rfl dX6_componentCount_42 ?_
          refine sn_iinc_2 C rfl dX6_componentCount_43 ?_
          refine sw_goto C 9 dX6_componentCount_46 (by decide) ?_
          exact ih9 (i + 1) _ (by omega) (by rw [zcnt, zIt, ← zcnt, ← hc]; first | (rw [show (rClo (S 13) n (1 * 2 ^ i) &&& (1 * 2 ^ i - 1) == 0) = true from by rw [beq_iff_eq]; exact c33]; rfl) | (rw [show (rClo (S 13) n (1 * 2 ^ i) &&& (1 * 2 ^ i - 1) == 0) = false from by rw [beq_eq_false_iff_ne]; exact c33]; rfl)) (by omega)
        · refine sn_iconst C 1 (by decide) dX6_componentCount_36 ?_
          refine sw_goto C 41 dX6_componentCount_37 (by decide) ?_
          refine sn_iadd C dX6_componentCount_41 ?_
          refine sw_istore_1 C rfl dX6_componentCount_42 ?_
          refine sn_iinc_2 C rfl dX6_componentCount_43 ?_
          refine sw_goto C 9 dX6_componentCount_46 (by decide) ?_
          exact ih9 (i + 1) _ (by omega) (by rw [zcnt, zIt, ← zcnt, ← hc]; first | (rw [show (rClo (S 13) n (1 * 2 ^ i) &&& (1 * 2 ^ i - 1) == 0) = true from by rw [beq_iff_eq]; exact c33]; rfl) | (rw [show (rClo (S 13) n (1 * 2 ^ i) &&& (1 * 2 ^ i - 1) == 0) = false from by rw [beq_eq_false_iff_ne]; exact c33]; rfl)) (by omega)
  exact L9 _ 0 _ (by omega) rfl (Nat.lt_succ_self _)

set_option maxRecDepth 100000 in
set_option maxHeartbeats 4000000 in
theorem c_X6_componentCountByUnion {l : Launch} (hl : l.stackTraces = false) {G : zG} {S : zS} {J : Int64} {E : UInt64} {n t : Nat} (hm : mNow S n t)  : nCR l G mX6_componentCountByUnion 8 0 0 [.ref 12] S J E (some (zi (zcnt n (fun e => rClo (S 13) n (1 * 2 ^ e) &&& (1 * 2 ^ e - 1) == 0)))) (zU S 12 0 0) J E := by
  refine nCR.of hl (by decide) rfl (Nat.le_of_ble_eq_true rfl) (ls := [some (.ref 12)]) rfl (fun X C hF hX => ?_)
  subst hX
  obtain ⟨hn, hz, ht, ht4, hls, hrs⟩ := id hm
  refine sw_aload_0 C dX6_componentCountByUnion_0 ?_
  refine sn_cV0r C vX6_componentCount lX6_148 rfl (by decide) rfl rfl dX6_componentCountByUnion_1 (Nat.le_of_ble_eq_true rfl) (c_X6_componentCount hl hm) (by decide) (by decide) (by decide) ?_
  exact sn_iret C rfl hF dX6_componentCountByUnion_4 (by decide) (by decide) (by first | rfl | (simp [*]; done)) rfl rfl rfl
