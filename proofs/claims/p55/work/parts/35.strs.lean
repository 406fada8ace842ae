set_option maxRecDepth 100000 in
set_option maxHeartbeats 4000000 in
theorem c_J0_coder_7d493 {l : Launch} (hl : l.stackTraces = false) {G : zG} {S : zS} {J : Int64} {E : UInt64} {k : Nat} (hk : k < 10) : nCR l G mJ0_coder_7d493 0 0 0 [.ref (300 + k)] S J E (some (zi 0)) S J E := by
  refine nCR.of hl (by decide) rfl (Nat.le_of_ble_eq_true rfl) (ls := [some (.ref (300 + k))]) rfl (fun X C hF hX => ?_)
  subst hX
  refine sw_getCS C wStrS dJ0_coder_7d493_0 ?_
  change SN G X _ _ _ _ (zi 1 :: _) S J E
  refine sn_if_eq C 13 (by decide) dJ0_coder_7d493_3 (by decide) (fun c3 => ?_) (fun c3 => ?_)
  · exact absurd c3 (by decide)
  · refine sw_aload_0 C dJ0_coder_7d493_6 ?_
    refine sw_strC C hk rfl dJ0_coder_7d493_7 ?_
    refine sw_goto C 14 dJ0_coder_7d493_10 (by decide) ?_
    exact sw_iret C (ty := .byte) rfl rfl hF dJ0_coder_7d493_14 (by decide) (by decide) rfl rfl rfl rfl

set_option maxRecDepth 100000 in
set_option maxHeartbeats 4000000 in
theorem c_J0_isLatin1_aae02 {l : Launch} (hl : l.stackTraces = false) {G : zG} {S : zS} {J : Int64} {E : UInt64} {k : Nat} (hk : k < 10) : nCR l G mJ0_isLatin1_aae02 0 0 0 [.ref (300 + k)] S J E (some (zi true.toNat)) S J E := by
  refine nCR.of hl (by decide) rfl (Nat.le_of_ble_eq_true rfl) (ls := [some (.ref (300 + k))]) rfl (fun X C hF hX => ?_)
  subst hX
  refine sw_getCS C wStrS dJ0_isLatin1_aae02_0 ?_
  change SN G X _ _ _ _ (zi 1 :: _) S J E
  refine sn_if_eq C 17 (by decide) dJ0_isLatin1_aae02_3 (by decide) (fun c3 => ?_) (fun c3 => ?_)
  · exact absurd c3 (by decide)
  · refine sw_aload_0 C dJ0_isLatin1_aae02_6 ?_
    refine sw_strC C hk rfl dJ0_isLatin1_aae02_7 ?_
    change SN G X _ _ _ _ (zi 0 :: _) S J E
    refine sn_if_ne C 17 (by decide) dJ0_isLatin1_aae02_10 (by decide) (fun c10 => ?_) (fun c10 => ?_)
    · exact absurd rfl c10
    · refine sn_iconst C 1 (by decide) dJ0_isLatin1_aae02_13 ?_
      refine sw_goto C 18 dJ0_isLatin1_aae02_14 (by decide) ?_
      exact sn_zret C (v := true) rfl hF dJ0_isLatin1_aae02_18 (by decide) (by decide) (by rfl) rfl rfl rfl

set_option maxRecDepth 100000 in
set_option maxHeartbeats 4000000 in
theorem c_J0_length_8abf5 {l : Launch} (hl : l.stackTraces = false) {G : zG} {S : zS} {J : Int64} {E : UInt64} {k : Nat} (hk : k < 10) : nCR l G mJ0_length_8abf5 1 0 0 [.ref (300 + k)] S J E (some (zi (zFl k))) S J E := by
  refine nCR.of hl (by decide) rfl (Nat.le_of_ble_eq_true rfl) (ls := [some (.ref (300 + k))]) rfl (fun X C hF hX => ?_)
  subst hX
  refine sw_aload_0 C dJ0_length_8abf5_0 ?_
  refine sw_strV C hk rfl dJ0_length_8abf5_1 ?_
  refine sw_strL C hk dJ0_length_8abf5_4 ?_
  refine sw_aload_0 C dJ0_length_8abf5_5 ?_
  refine sn_cX0r C vJ0_coder_7d493 lJ0_335 hk rfl dJ0_length_8abf5_6 (Nat.le_of_ble_eq_true rfl) (c_J0_coder_7d493 hl hk) (by decide) (by decide) (by decide) ?_
  refine sn_ishr C (by have h9 : zFl k ≤ 10 := zFl_le ⟨k, hk⟩; omega) (by decide) dJ0_length_8abf5_9 ?_
  exact sn_iret C rfl hF dJ0_length_8abf5_10 (by decide) (by decide) (by simp) rfl rfl rfl

set_option maxRecDepth 100000 in
set_option maxHeartbeats 4000000 in
theorem c_J3_checkIndex_8e157 {l : Launch} (hl : l.stackTraces = false) {G : zG} {S : zS} {J : Int64} {E : UInt64} {i n : Nat} (hi : i < n) (hn : n < 2 ^ 31) {v : Value} (hv : v = .null ∨ v = .ref 340) : nCR l G mJ3_checkIndex_8e157 0 0 0 [zi i, zi n, v] S J E (some (zi i)) S J E := by
  have hvc : v.category = 1 := by rcases hv with rfl | rfl <;> rfl
  refine nCR.of hl (by decide) (by simp [hvc]; exact ⟨rfl, rfl⟩) (Nat.le_of_ble_eq_true rfl) (ls := [some (zi i), some (zi n), some (v)]) rfl (fun X C hF hX => ?_)
  subst hX
  refine sw_iload_0 C dJ3_checkIndex_8e157_0 ?_
  refine sn_if_lt C 9 (by omega) dJ3_checkIndex_8e157_1 (by decide) (fun c1 => ?_) (fun c1 => ?_)
  · omega
  · refine sw_iload_0 C dJ3_checkIndex_8e157_4 ?_
    refine sw_iload_1 C dJ3_checkIndex_8e157_5 ?_
    refine sn_icmp_lt C 16 (by omega) (by omega) dJ3_checkIndex_8e157_6 (by decide) (fun c6 => ?_) (fun c6 => ?_)
    · refine sw_iload_0 C dJ3_checkIndex_8e157_16 ?_
      exact sn_iret C rfl hF dJ3_checkIndex_8e157_17 (by decide) (by decide) (by rfl) rfl rfl rfl
    · omega

set_option maxRecDepth 100000 in
set_option maxHeartbeats 4000000 in
theorem c_J0_checkIndex_df160 {l : Launch} (hl : l.stackTraces = false) {G : zG} {S : zS} {J : Int64} {E : UInt64} {i n : Nat} (hi : i < n) (hn : n < 2 ^ 31) : nCR l G mJ0_checkIndex_df160 1 0 0 [zi i, zi n] S J E none S J E := by
  refine nCR.of hl (by decide) rfl (Nat.le_of_ble_eq_true rfl) (ls := [some (zi i), some (zi n)]) rfl (fun X C hF hX => ?_)
  subst hX
  refine sw_iload_0 C dJ0_checkIndex_df160_0 ?_
  refine sw_iload_1 C dJ0_checkIndex_df160_1 ?_
  refine sw_getFmt C wStrF dJ0_checkIndex_df160_2 (fun v hv => ?_)
  refine sn_cS3r C vJ3_checkIndex_8e157 lJ0_1059 dJ0_checkIndex_df160_5 (Nat.le_of_ble_eq_true rfl) (c_J3_checkIndex_8e157 hl hi hn hv) (by decide) (by decide) (by decide) ?_
  refine sw_pop C rfl dJ0_checkIndex_df160_8 ?_
  exact sn_vret C rfl hF dJ0_checkIndex_df160_9 (by decide) (by decide) rfl rfl rfl

set_option maxRecDepth 100000 in
set_option maxHeartbeats 4000000 in
theorem c_J1_charAt_3b067 {l : Launch} (hl : l.stackTraces = false) {G : zG} {S : zS} {J : Int64} {E : UInt64} {k : Nat} (hk : k < 10) {i : Nat} (hi : i < zFl k) : nCR l G mJ1_charAt_3b067 2 0 0 [.ref (320 + k), zi i] S J E (some (zi (zFch k i))) S J E := by
  refine nCR.of hl (by decide) rfl (Nat.le_of_ble_eq_true rfl) (ls := [some (.ref (320 + k)), some (zi i)]) rfl (fun X C hF hX => ?_)
  subst hX
  refine sw_iload_1 C dJ1_charAt_3b067_0 ?_
  refine sw_aload_0 C dJ1_charAt_3b067_1 ?_
  refine sw_strL C hk dJ1_charAt_3b067_2 ?_
  refine sn_cS2v C vJ0_checkIndex_df160 lJ1_9 dJ1_charAt_3b067_3 (Nat.le_of_ble_eq_true rfl) (c_J0_checkIndex_df160 hl hi (by have h9 : zFl k ≤ 10 := zFl_le ⟨k, hk⟩; omega)) (by decide) (by decide) (by decide) ?_
  refine sw_aload_0 C dJ1_charAt_3b067_6 ?_
  refine sw_iload_1 C dJ1_charAt_3b067_7 ?_
  have hle : zFl k ≤ 10 := zFl_le ⟨k, hk⟩
  have hch : zFch k i < 128 := (zFch_eq ⟨k, hk⟩ ⟨i, by omega⟩ hi).2
  refine sw_strB C hk hi dJ1_charAt_3b067_8 ?_
  refine sn_sipush C 255 (by decide) dJ1_charAt_3b067_9 ?_
  refine sn_iand C dJ1_charAt_3b067_12 ?_
  rw [show zFch k i &&& 255 = zFch k i from by rw [show (255 : Nat) = 2 ^ 8 - 1 from rfl, Nat.and_two_pow_sub_one_eq_mod, Nat.mod_eq_of_lt (by omega)]]
  refine sw_i2c C dJ1_charAt_3b067_13 ?_
  rw [show ((nI (zFch k i)).toUInt32 % 65536).toInt32 = nI (zFch k i) from by rw [pk_char, nI_bv, BitVec.toNat_ofNat, Nat.mod_eq_of_lt (show zFch k i < 2 ^ 32 by omega), Nat.mod_eq_of_lt (by omega)]]
  exact sn_cret C (by omega) rfl hF dJ1_charAt_3b067_14 (by decide) (by decide) rfl rfl rfl rfl

set_option maxRecDepth 100000 in
set_option maxHeartbeats 4000000 in
theorem c_J0_charAt_5068e {l : Launch} (hl : l.stackTraces = false) {G : zG} {S : zS} {J : Int64} {E : UInt64} {k : Nat} (hk : k < 10) {i : Nat} (hi : i < zFl k) : nCR l G mJ0_charAt_5068e 3 0 0 [.ref (300 + k), zi i] S J E (some (zi (zFch k i))) S J E := by
  refine nCR.of hl (by decide) rfl (Nat.le_of_ble_eq_true rfl) (ls := [some (.ref (300 + k)), some (zi i)]) rfl (fun X C hF hX => ?_)
  subst hX
  refine sw_aload_0 C dJ0_charAt_5068e_0 ?_
  refine sn_cX0r C vJ0_isLatin1_aae02 lJ0_492 hk rfl dJ0_charAt_5068e_1 (Nat.le_of_ble_eq_true rfl) (c_J0_isLatin1_aae02 hl hk) (by decide) (by decide) (by decide) ?_
  refine sn_if_eqB C 16 dJ0_charAt_5068e_4 (by decide) (fun c4 => ?_) (fun c4 => ?_)
  · cases c4
  · refine sw_aload_0 C dJ0_charAt_5068e_7 ?_
    refine sw_strV C hk rfl dJ0_charAt_5068e_8 ?_
    refine sw_iload_1 C dJ0_charAt_5068e_11 ?_
    refine sn_cS2r C vJ1_charAt_3b067 lJ0_495 dJ0_charAt_5068e_12 (Nat.le_of_ble_eq_true rfl) (c_J1_charAt_3b067 hl hk hi) (by decide) (by decide) (by decide) ?_
    have hle : zFl k ≤ 10 := zFl_le ⟨k, hk⟩
    have hch : zFch k i < 128 := (zFch_eq ⟨k, hk⟩ ⟨i, by omega⟩ hi).2
    exact sn_cret C (by omega) rfl hF dJ0_charAt_5068e_15 (by decide) (by decide) rfl rfl rfl rfl

set_option maxRecDepth 100000 in
set_option maxHeartbeats 4000000 in
theorem c0_X4_formOf {l : Launch} (hl : l.stackTraces = false) {G : zG} {S : zS} {J : Int64} {E : UInt64}  : nCR l G mX4_formOf 0 0 0 [zi 0] S J E (some (.ref (300 + 0))) S J E := by
  refine nCR.of hl (by decide) rfl (Nat.le_of_ble_eq_true rfl) (ls := [some (zi 0)]) rfl (fun X C hF hX => ?_)
  subst hX
  refine sw_iload_0 C dX4_formOf_0 ?_
  refine sw_tableIn C (off := 51) 52 dX4_formOf_1 (by decide) (by decide) (by decide +kernel) (by decide) ?_
  refine sw_ldcF C (k := 0) (by decide) rfl dX4_formOf_52 ?_
  exact sw_aret C rfl rfl hF dX4_formOf_54 (by decide) (by decide) rfl rfl rfl

set_option maxRecDepth 100000 in
set_option maxHeartbeats 4000000 in
theorem c1_X4_formOf {l : Launch} (hl : l.stackTraces = false) {G : zG} {S : zS} {J : Int64} {E : UInt64}  : nCR l G mX4_formOf 0 0 0 [zi 1] S J E (some (.ref (300 + 1))) S J E := by
  refine nCR.of hl (by decide) rfl (Nat.le_of_ble_eq_true rfl) (ls := [some (zi 1)]) rfl (fun X C hF hX => ?_)
  subst hX
  refine sw_iload_0 C dX4_formOf_0 ?_
  refine sw_tableIn C (off := 54) 55 dX4_formOf_1 (by decide) (by decide) (by decide +kernel) (by decide) ?_
  refine sw_ldcF C (k := 1) (by decide) rfl dX4_formOf_55 ?_
  exact sw_aret C rfl rfl hF dX4_formOf_57 (by decide) (by decide) rfl rfl rfl

set_option maxRecDepth 100000 in
set_option maxHeartbeats 4000000 in
theorem c2_X4_formOf {l : Launch} (hl : l.stackTraces = false) {G : zG} {S : zS} {J : Int64} {E : UInt64}  : nCR l G mX4_formOf 0 0 0 [zi 2] S J E (some (.ref (300 + 2))) S J E := by
  refine nCR.of hl (by decide) rfl (Nat.le_of_ble_eq_true rfl) (ls := [some (zi 2)]) rfl (fun X C hF hX => ?_)
  subst hX
  refine sw_iload_0 C dX4_formOf_0 ?_
  refine sw_tableIn C (off := 57) 58 dX4_formOf_1 (by decide) (by decide) (by decide +kernel) (by decide) ?_
  refine sw_ldcF C (k := 2) (by decide) rfl dX4_formOf_58 ?_
  exact sw_aret C rfl rfl hF dX4_formOf_60 (by decide) (by decide) rfl rfl rfl

set_option maxRecDepth 100000 in
set_option maxHeartbeats 4000000 in
theorem c3_X4_formOf {l : Launch} (hl : l.stackTraces = false) {G : zG} {S : zS} {J : Int64} {E : UInt64}  : nCR l G mX4_formOf 0 0 0 [zi 3] S J E (some (.ref (300 + 3))) S J E := by
  refine nCR.of hl (by decide) rfl (Nat.le_of_ble_eq_true rfl) (ls := [some (zi 3)]) rfl (fun X C hF hX => ?_)
  subst hX
  refine sw_iload_0 C dX4_formOf_0 ?_
  refine sw_tableIn C (off := 60) 61 dX4_formOf_1 (by decide) (by decide) (by decide +kernel) (by decide) ?_
  refine sw_ldcF C (k := 3) (by decide) rfl dX4_formOf_61 ?_
  exact sw_aret C rfl rfl hF dX4_formOf_63 (by decide) (by decide) rfl rfl rfl

set_option maxRecDepth 100000 in
set_option maxHeartbeats 4000000 in
theorem c4_X4_formOf {l : Launch} (hl : l.stackTraces = false) {G : zG} {S : zS} {J : Int64} {E : UInt64}  : nCR l G mX4_formOf 0 0 0 [zi 4] S J E (some (.ref (300 + 4))) S J E := by
  refine nCR.of hl (by decide) rfl (Nat.le_of_ble_eq_true rfl) (ls := [some (zi 4)]) rfl (fun X C hF hX => ?_)
  subst hX
  refine sw_iload_0 C dX4_formOf_0 ?_
  refine sw_tableIn C (off := 63) 64 dX4_formOf_1 (by decide) (by decide) (by decide +kernel) (by decide) ?_
  refine sw_ldcF C (k := 4) (by decide) rfl dX4_formOf_64 ?_
  exact sw_aret C rfl rfl hF dX4_formOf_66 (by decide) (by decide) rfl rfl rfl

set_option maxRecDepth 100000 in
set_option maxHeartbeats 4000000 in
theorem c5_X4_formOf {l : Launch} (hl : l.stackTraces = false) {G : zG} {S : zS} {J : Int64} {E : UInt64}  : nCR l G mX4_formOf 0 0 0 [zi 5] S J E (some (.ref (300 + 5))) S J E := by
  refine nCR.of hl (by decide) rfl (Nat.le_of_ble_eq_true rfl) (ls := [some (zi 5)]) rfl (fun X C hF hX => ?_)
  subst hX
  refine sw_iload_0 C dX4_formOf_0 ?_
  refine sw_tableIn C (off := 66) 67 dX4_formOf_1 (by decide) (by decide) (by decide +kernel) (by decide) ?_
  refine sw_ldcF C (k := 5) (by decide) rfl dX4_formOf_67 ?_
  exact sw_aret C rfl rfl hF dX4_formOf_69 (by decide) (by decide) rfl rfl rfl

set_option maxRecDepth 100000 in
set_option maxHeartbeats 4000000 in
theorem c6_X4_formOf {l : Launch} (hl : l.stackTraces = false) {G : zG} {S : zS} {J : Int64} {E : UInt64}  : nCR l G mX4_formOf 0 0 0 [zi 6] S J E (some (.ref (300 + 6))) S J E := by
  refine nCR.of hl (by decide) rfl (Nat.le_of_ble_eq_true rfl) (ls := [some (zi 6)]) rfl (fun X C hF hX => ?_)
  subst hX
  refine sw_iload_0 C dX4_formOf_0 ?_
  refine sw_tableIn C (off := 69) 70 dX4_formOf_1 (by decide) (by decide) (by decide +kernel) (by decide) ?_
  refine sw_ldcF C (k := 6) (by decide) rfl dX4_formOf_70 ?_
  exact sw_aret C rfl rfl hF dX4_formOf_72 (by decide) (by decide) rfl rfl rfl

set_option maxRecDepth 100000 in
set_option maxHeartbeats 4000000 in
theorem c7_X4_formOf {l : Launch} (hl : l.stackTraces = false) {G : zG} {S : zS} {J : Int64} {E : UInt64}  : nCR l G mX4_formOf 0 0 0 [zi 7] S J E (some (.ref (300 + 7))) S J E := by
  refine nCR.of hl (by decide) rfl (Nat.le_of_ble_eq_true rfl) (ls := [some (zi 7)]) rfl (fun X C hF hX => ?_)
  subst hX
  refine sw_iload_0 C dX4_formOf_0 ?_
  refine sw_tableIn C (off := 72) 73 dX4_formOf_1 (by decide) (by decide) (by decide +kernel) (by decide) ?_
  refine sw_ldcF C (k := 7) (by decide) rfl dX4_formOf_73 ?_
  exact sw_aret C rfl rfl hF dX4_formOf_75 (by decide) (by decide) rfl rfl rfl

set_option maxRecDepth 100000 in
set_option maxHeartbeats 4000000 in
theorem c8_X4_formOf {l : Launch} (hl : l.stackTraces = false) {G : zG} {S : zS} {J : Int64} {E : UInt64}  : nCR l G mX4_formOf 0 0 0 [zi 8] S J E (some (.ref (300 + 8))) S J E := by
  refine nCR.of hl (by decide) rfl (Nat.le_of_ble_eq_true rfl) (ls := [some (zi 8)]) rfl (fun X C hF hX => ?_)
  subst hX
  refine sw_iload_0 C dX4_formOf_0 ?_
  refine sw_tableIn C (off := 75) 76 dX4_formOf_1 (by decide) (by decide) (by decide +kernel) (by decide) ?_
  refine sw_ldcF C (k := 8) (by decide) rfl dX4_formOf_76 ?_
  exact sw_aret C rfl rfl hF dX4_formOf_78 (by decide) (by decide) rfl rfl rfl

set_option maxRecDepth 100000 in
set_option maxHeartbeats 4000000 in
theorem c9_X4_formOf {l : Launch} (hl : l.stackTraces = false) {G : zG} {S : zS} {J : Int64} {E : UInt64}  : nCR l G mX4_formOf 0 0 0 [zi 9] S J E (some (.ref (300 + 9))) S J E := by
  refine nCR.of hl (by decide) rfl (Nat.le_of_ble_eq_true rfl) (ls := [some (zi 9)]) rfl (fun X C hF hX => ?_)
  subst hX
  refine sw_iload_0 C dX4_formOf_0 ?_
  refine sw_tableOut C 79 dX4_formOf_1 (by decide) (by decide) ?_
  refine sw_ldcF C (k := 9) (by decide) rfl dX4_formOf_79 ?_
  exact sw_aret C rfl rfl hF dX4_formOf_81 (by decide) (by decide) rfl rfl rfl

theorem c_X4_formOf {l : Launch} (hl : l.stackTraces = false) {G : zG} {S : zS} {J : Int64} {E : UInt64} {k : Nat} (hk : k < 10) : nCR l G mX4_formOf 0 0 0 [zi k] S J E (some (.ref (300 + k))) S J E := by
  rcases (show k = 0 ∨ k = 1 ∨ k = 2 ∨ k = 3 ∨ k = 4 ∨ k = 5 ∨ k = 6 ∨ k = 7 ∨ k = 8 ∨ k = 9 by omega) with rfl | rfl | rfl | rfl | rfl | rfl | rfl | rfl | rfl | rfl
  · exact c0_X4_formOf hl
  · exact c1_X4_formOf hl
  · exact c2_X4_formOf hl
  · exact c3_X4_formOf hl
  · exact c4_X4_formOf hl
  · exact c5_X4_formOf hl
  · exact c6_X4_formOf hl
  · exact c7_X4_formOf hl
  · exact c8_X4_formOf hl
  · exact c9_X4_formOf hl