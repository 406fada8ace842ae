set_option maxRecDepth 100000 in
set_option maxHeartbeats 4000000 in
theorem c_X5_isHive {l : Launch} (hl : l.stackTraces = false) {G : zG} {S : zS} {J : Int64} {E : UInt64} {n : Nat} (hn : n < 2 ^ 32) : nCR l G mX5_isHive 0 0 0 [zi n] S J E (some (zi (decide (n < 4)).toNat)) S J E := by
  refine nCR.of hl (by decide) rfl (Nat.le_of_ble_eq_true rfl) (ls := [some (zi n)]) rfl (fun X C hF hX => ?_)
  subst hX
  refine sw_iload_0 C dX5_isHive_0 ?_
  refine sn_if_lt C 13 (by omega) dX5_isHive_1 (by decide) (fun c1 => ?_) (fun c1 => ?_)
  · refine sn_iconst C 0 (by decide) dX5_isHive_13 ?_
    exact sn_zret C (v := false) rfl hF dX5_isHive_14 (by decide) (by decide) (by simp; omega) rfl rfl rfl
  · refine sw_iload_0 C dX5_isHive_4 ?_
    refine sn_iconst C 4 (by decide) dX5_isHive_5 ?_
    refine sn_icmp_ge C 13 (by omega) (by omega) dX5_isHive_6 (by decide) (fun c6 => ?_) (fun c6 => ?_)
    · refine sn_iconst C 0 (by decide) dX5_isHive_13 ?_
      exact sn_zret C (v := false) rfl hF dX5_isHive_14 (by decide) (by decide) (by simp; omega) rfl rfl rfl
    · refine sn_iconst C 1 (by decide) dX5_isHive_9 ?_
      refine sw_goto C 14 dX5_isHive_10 (by decide) ?_
      exact sn_zret C (v := true) rfl hF dX5_isHive_14 (by decide) (by decide) (by simp; omega) rfl rfl rfl

set_option maxRecDepth 100000 in
set_option maxHeartbeats 4000000 in
theorem c_X5_isLevel {l : Launch} (hl : l.stackTraces = false) {G : zG} {S : zS} {J : Int64} {E : UInt64} {n : Nat} (hn : n < 2 ^ 32) : nCR l G mX5_isLevel 0 0 0 [zi n] S J E (some (zi (decide (n ≤ 9)).toNat)) S J E := by
  refine nCR.of hl (by decide) rfl (Nat.le_of_ble_eq_true rfl) (ls := [some (zi n)]) rfl (fun X C hF hX => ?_)
  subst hX
  refine sw_iload_0 C dX5_isLevel_0 ?_
  refine sn_if_lt C 14 (by omega) dX5_isLevel_1 (by decide) (fun c1 => ?_) (fun c1 => ?_)
  · refine sn_iconst C 0 (by decide) dX5_isLevel_14 ?_
    exact sn_zret C (v := false) rfl hF dX5_isLevel_15 (by decide) (by decide) (by simp; omega) rfl rfl rfl
  · refine sw_iload_0 C dX5_isLevel_4 ?_
    refine sn_bipush C 9 (by decide) dX5_isLevel_5 ?_
    refine sn_icmp_gt C 14 (by omega) (by omega) dX5_isLevel_7 (by decide) (fun c7 => ?_) (fun c7 => ?_)
    · refine sn_iconst C 0 (by decide) dX5_isLevel_14 ?_
      exact sn_zret C (v := false) rfl hF dX5_isLevel_15 (by decide) (by decide) (by simp; omega) rfl rfl rfl
    · refine sn_iconst C 1 (by decide) dX5_isLevel_10 ?_
      refine sw_goto C 15 dX5_isLevel_11 (by decide) ?_
      exact sn_zret C (v := true) rfl hF dX5_isLevel_15 (by decide) (by decide) (by simp; omega) rfl rfl rfl

set_option maxRecDepth 100000 in
set_option maxHeartbeats 4000000 in
theorem c_X3_hasListener {l : Launch} (hl : l.stackTraces = false) {G : zG} {S : zS} {J : Int64} {E : UInt64} {n : Nat} (hn : n < 2 ^ 32) (hz : S 26 0 ≤ 12) : nCR l G mX3_hasListener 0 0 0 [.ref 25, zi n] S J E (some (zi (decide (n < S 26 0)).toNat)) S J E := by
  refine nCR.of hl (by decide) rfl (Nat.le_of_ble_eq_true rfl) (ls := [some (.ref 25), some (zi n)]) rfl (fun X C hF hX => ?_)
  subst hX
  refine sw_iload_1 C dX3_hasListener_0 ?_
  refine sn_if_lt C 19 (by omega) dX3_hasListener_1 (by decide) (fun c1 => ?_) (fun c1 => ?_)
  · refine sn_iconst C 0 (by decide) dX3_hasListener_19 ?_
    exact sn_zret C (v := false) rfl hF dX3_hasListener_20 (by decide) (by decide) (by simp; omega) rfl rfl rfl
  · refine sw_iload_1 C dX3_hasListener_4 ?_
    refine sw_aload_0 C dX3_hasListener_5 ?_
    refine sw_getR C (o' := 26) fX3_12 rfl (by decide) rfl rfl (by decide) dX3_hasListener_6 ?_
    refine sn_getI C fX3_58 rfl (by decide) rfl dX3_hasListener_9 ?_
    refine sn_icmp_ge C 19 (by omega) (by omega) dX3_hasListener_12 (by decide) (fun c12 => ?_) (fun c12 => ?_)
    · refine sn_iconst C 0 (by decide) dX3_hasListener_19 ?_
      exact sn_zret C (v := false) rfl hF dX3_hasListener_20 (by decide) (by decide) (by simp; omega) rfl rfl rfl
    · refine sn_iconst C 1 (by decide) dX3_hasListener_15 ?_
      refine sw_goto C 20 dX3_hasListener_16 (by decide) ?_
      exact sn_zret C (v := true) rfl hF dX3_hasListener_20 (by decide) (by decide) (by simp; omega) rfl rfl rfl

set_option maxRecDepth 100000 in
set_option maxHeartbeats 4000000 in
theorem c_X3_hasRumour {l : Launch} (hl : l.stackTraces = false) {G : zG} {S : zS} {J : Int64} {E : UInt64} {n : Nat} (hn : n < 2 ^ 32) (hz : S 25 4 ≤ 4) : nCR l G mX3_hasRumour 0 0 0 [.ref 25, zi n] S J E (some (zi (decide (n < S 25 4)).toNat)) S J E := by
  refine nCR.of hl (by decide) rfl (Nat.le_of_ble_eq_true rfl) (ls := [some (.ref 25), some (zi n)]) rfl (fun X C hF hX => ?_)
  subst hX
  refine sw_iload_1 C dX3_hasRumour_0 ?_
  refine sn_if_lt C 16 (by omega) dX3_hasRumour_1 (by decide) (fun c1 => ?_) (fun c1 => ?_)
  · refine sn_iconst C 0 (by decide) dX3_hasRumour_16 ?_
    exact sn_zret C (v := false) rfl hF dX3_hasRumour_17 (by decide) (by decide) (by simp; omega) rfl rfl rfl
  · refine sw_iload_1 C dX3_hasRumour_4 ?_
    refine sw_aload_0 C dX3_hasRumour_5 ?_
    refine sn_getI C fX3_31 rfl (by decide) rfl dX3_hasRumour_6 ?_
    refine sn_icmp_ge C 16 (by omega) (by omega) dX3_hasRumour_9 (by decide) (fun c9 => ?_) (fun c9 => ?_)
    · refine sn_iconst C 0 (by decide) dX3_hasRumour_16 ?_
      exact sn_zret C (v := false) rfl hF dX3_hasRumour_17 (by decide) (by decide) (by simp; omega) rfl rfl rfl
    · refine sn_iconst C 1 (by decide) dX3_hasRumour_12 ?_
      refine sw_goto C 17 dX3_hasRumour_13 (by decide) ?_
      exact sn_zret C (v := true) rfl hF dX3_hasRumour_17 (by decide) (by decide) (by simp; omega) rfl rfl rfl
