theorem kc0 : Cond.constant RJ6 265 1431655765 ∈ lw_tbl := List.mem_of_getElem? (i := 371) (by decide +kernel)
theorem kc1 : Cond.constant RJ6 266 858993459 ∈ lw_tbl := List.mem_of_getElem? (i := 372) (by decide +kernel)
theorem kc2 : Cond.constant RJ6 267 252645135 ∈ lw_tbl := List.mem_of_getElem? (i := 373) (by decide +kernel)
set_option maxRecDepth 100000 in
set_option maxHeartbeats 4000000 in
theorem c_J6_bitCount_0f7a4 {l : Launch} (hl : l.stackTraces = false) {G : zG} {S : zS} {J : Int64} {E : UInt64} {x : Nat} (hx : x < 4096) : nCR l G mJ6_bitCount_0f7a4 0 0 0 [zi x] S J E (some (zi (zpop x))) S J E := by
  refine nCR.of hl (by decide) rfl (Nat.le_of_ble_eq_true rfl) (ls := [some (zi x)]) rfl (fun X C hF hX => ?_)
  subst hX
  refine sw_iload_0 C dJ6_bitCount_0f7a4_0 ?_
  refine sw_iload_0 C dJ6_bitCount_0f7a4_1 ?_
  refine sn_iconst C 1 (by decide) dJ6_bitCount_0f7a4_2 ?_
  refine sn_iushr C (by decide) dJ6_bitCount_0f7a4_3 ?_
  refine sn_ldcw C (v := 1431655765) 1431655765 rfl kc0 dJ6_bitCount_0f7a4_4 ?_
  refine sn_iand C dJ6_bitCount_0f7a4_7 ?_
  refine sn_isub C (by exact Nat.le_trans Nat.and_le_left (Nat.le_trans (Nat.div_le_self _ _) (Nat.mod_le _ _))) dJ6_bitCount_0f7a4_8 ?_
  refine sw_istore_0 C dJ6_bitCount_0f7a4_9 ?_
  refine sw_iload_0 C dJ6_bitCount_0f7a4_10 ?_
  refine sn_ldcw C (v := 858993459) 858993459 rfl kc1 dJ6_bitCount_0f7a4_11 ?_
  refine sn_iand C dJ6_bitCount_0f7a4_14 ?_
  refine sw_iload_0 C dJ6_bitCount_0f7a4_15 ?_
  refine sn_iconst C 2 (by decide) dJ6_bitCount_0f7a4_16 ?_
  refine sn_iushr C (by decide) dJ6_bitCount_0f7a4_17 ?_
  refine sn_ldcw C (v := 858993459) 858993459 rfl kc1 dJ6_bitCount_0f7a4_18 ?_
  refine sn_iand C dJ6_bitCount_0f7a4_21 ?_
  refine sn_iadd C dJ6_bitCount_0f7a4_22 ?_
  refine sw_istore_0 C dJ6_bitCount_0f7a4_23 ?_
  refine sw_iload_0 C dJ6_bitCount_0f7a4_24 ?_
  refine sw_iload_0 C dJ6_bitCount_0f7a4_25 ?_
  refine sn_iconst C 4 (by decide) dJ6_bitCount_0f7a4_26 ?_
  refine sn_iushr C (by decide) dJ6_bitCount_0f7a4_27 ?_
  refine sn_iadd C dJ6_bitCount_0f7a4_28 ?_
  refine sn_ldcw C (v := 252645135) 252645135 rfl kc2 dJ6_bitCount_0f7a4_29 ?_
  refine sn_iand C dJ6_bitCount_0f7a4_32 ?_
  refine sw_istore_0 C dJ6_bitCount_0f7a4_33 ?_
  refine sw_iload_0 C dJ6_bitCount_0f7a4_34 ?_
  refine sw_iload_0 C dJ6_bitCount_0f7a4_35 ?_
  refine sn_bipush C 8 (by decide) dJ6_bitCount_0f7a4_36 ?_
  refine sn_iushr C (by decide) dJ6_bitCount_0f7a4_38 ?_
  refine sn_iadd C dJ6_bitCount_0f7a4_39 ?_
  refine sw_istore_0 C dJ6_bitCount_0f7a4_40 ?_
  refine sw_iload_0 C dJ6_bitCount_0f7a4_41 ?_
  refine sw_iload_0 C dJ6_bitCount_0f7a4_42 ?_
  refine sn_bipush C 16 (by decide) dJ6_bitCount_0f7a4_43 ?_
  refine sn_iushr C (by decide) dJ6_bitCount_0f7a4_45 ?_
  refine sn_iadd C dJ6_bitCount_0f7a4_46 ?_
  refine sw_istore_0 C dJ6_bitCount_0f7a4_47 ?_
  refine sw_iload_0 C dJ6_bitCount_0f7a4_48 ?_
  refine sn_bipush C 63 (by decide) dJ6_bitCount_0f7a4_49 ?_
  refine sn_iand C dJ6_bitCount_0f7a4_51 ?_
  exact sn_iret C rfl hF dJ6_bitCount_0f7a4_52 (by decide) (by decide) (by exact zBc_pop hx) rfl rfl rfl

set_option maxRecDepth 100000 in
set_option maxHeartbeats 4000000 in
theorem c_X5_isHive {l : Launch} (hl : l.stackTraces = false) {G : zG} {S : zS} {J : Int64} {E : UInt64} {n : Nat} (hn : n < 2 ^ 32) : nCR l G mX5_isHive 0 0 0 [zi n] S J E (some (zi (decide (n < 4)).toNat)) S J E := by
  refine nCR.of hl (by decide) rfl (Nat.le_of_ble_eq_true rfl) (ls := [some (zi n)]) rfl (fun X C hF hX => ?_)
  subst hX
  refine sw_iload_0 C dX5_isHive_0 ?_
  refine sn_if_lt C 13 (by omega) dX5_isHive_1 (by decide) (fun c1 => ?_) (fun c1 => ?_)
  · refine sn_iconst C 0 (by decide) dX5_isHive_13 ?_
    exact sn_zret C (v := false) rfl hF dX5_isHive_14 (by decide) (by decide) (by simp; omega) rfl rfl rfl
  · refine sw_iload_0 C dX5_isHive_4 ?_
    refine sn_iconst C 4 (by decide) dX5_isHive_5 ?_
    refine sn_icmp_ge C 13 (by omega) (by omega) dX5_isHive_6 (by decide) (fun c6 => ?_) (fun c6 => ?_)
    · refine sn_iconst C 0 (by decide) dX5_isHive_13 ?_
      exact sn_zret C (v := false) rfl hF dX5_isHive_14 (by decide) (by decide) (by simp; omega) rfl rfl rfl
    · refine sn_iconst C 1 (by decide) dX5_isHive_9 ?_
      refine sw_goto C 14 dX5_isHive_10 (by decide) ?_
      exact sn_zret C (v := true) rfl hF dX5_isHive_14 (by decide) (by decide) (by simp; omega) rfl rfl rfl

set_option maxRecDepth 100000 in
set_option maxHeartbeats 4000000 in
theorem c_X5_isLevel {l : Launch} (hl : l.stackTraces = false) {G : zG} {S : zS} {J : Int64} {E : UInt64} {n : Nat} (hn : n < 2 ^ 32) : nCR l G mX5_isLevel 0 0 0 [zi n] S J E (some (zi (decide (n ≤ 9)).toNat)) S J E := by
  refine nCR.of hl (by decide) rfl (Nat.le_of_ble_eq_true rfl) (ls := [some (zi n)]) rfl (fun X C hF hX => ?_)
  subst hX
  refine sw_iload_0 C dX5_isLevel_0 ?_
  refine sn_if_lt C 14 (by omega) dX5_isLevel_1 (by decide) (fun c1 => ?_) (fun c1 => ?_)
  · refine sn_iconst C 0 (by decide) dX5_isLevel_14 ?_
    exact sn_zret C (v := false) rfl hF dX5_isLevel_15 (by decide) (by decide) (by simp; omega) rfl rfl rfl
  · refine sw_iload_0 C dX5_isLevel_4 ?_
    refine sn_bipush C 9 (by decide) dX5_isLevel_5 ?_
    refine sn_icmp_gt C 14 (by omega) (by omega) dX5_isLevel_7 (by decide) (fun c7 => ?_) (fun c7 => ?_)
    · refine sn_iconst C 0 (by decide) dX5_isLevel_14 ?_
      exact sn_zret C (v := false) rfl hF dX5_isLevel_15 (by decide) (by decide) (by simp; omega) rfl rfl rfl
    · refine sn_iconst C 1 (by decide) dX5_isLevel_10 ?_
      refine sw_goto C 15 dX5_isLevel_11 (by decide) ?_
      exact sn_zret C (v := true) rfl hF dX5_isLevel_15 (by decide) (by decide) (by simp; omega) rfl rfl rfl

set_option maxRecDepth 100000 in
set_option maxHeartbeats 4000000 in
theorem c_X5_contains {l : Launch} (hl : l.stackTraces = false) {G : zG} {S : zS} {J : Int64} {E : UInt64} {g m : Nat} (hm : m < 32) : nCR l G mX5_contains 0 0 0 [zi g, zi m] S J E (some (zi (g.testBit m).toNat)) S J E := by
  refine nCR.of hl (by decide) rfl (Nat.le_of_ble_eq_true rfl) (ls := [some (zi g), some (zi m)]) rfl (fun X C hF hX => ?_)
  subst hX
  refine sw_iload_0 C dX5_contains_0 ?_
  refine sn_iconst C 1 (by decide) dX5_contains_1 ?_
  refine sw_iload_1 C dX5_contains_2 ?_
  refine sn_ishl C (by omega) dX5_contains_3 ?_
  refine sn_iand C dX5_contains_4 ?_
  refine sn_if_eq C 12 (zTbB (by omega)) dX5_contains_5 (by decide) (fun c5 => ?_) (fun c5 => ?_)
  · refine sn_iconst C 0 (by decide) dX5_contains_12 ?_
    exact sn_zret C (v := false) rfl hF dX5_contains_13 (by decide) (by decide) (by first | exact ((zTb g m).mp c5).symm | exact (zTbT c5).symm) rfl rfl rfl
  · refine sn_iconst C 1 (by decide) dX5_contains_8 ?_
    refine sw_goto C 13 dX5_contains_9 (by decide) ?_
    exact sn_zret C (v := true) rfl hF dX5_contains_13 (by decide) (by decide) (by first | exact ((zTb g m).mp c5).symm | exact (zTbT c5).symm) rfl rfl rfl
