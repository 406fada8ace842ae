abbrev mJ5_init_d00df : zM := (yJ5_init_d00df, cJ5_init_d00df, 2, none)
theorem vJ5_init_d00df : zMeB mJ5_init_d00df 1 ∧ Cond.instanceMethod mJ5_init_d00df.1 ∈ lw_tbl := ⟨⟨(List.mem_of_getElem? (i := 241) (by decide +kernel)), (List.mem_of_getElem? (i := 31) (by decide +kernel)), ⟨by decide +kernel, by decide +kernel⟩, by decide +kernel, by decide⟩, (List.mem_of_getElem? (i := 240) (by decide +kernel))⟩
abbrev mJ5_init_a7421 : zM := (yJ5_init_a7421, cJ5_init_a7421, 5, none)
theorem vJ5_init_a7421 : zMeB mJ5_init_a7421 1 ∧ Cond.instanceMethod mJ5_init_a7421.1 ∈ lw_tbl := ⟨⟨(List.mem_of_getElem? (i := 1427) (by decide +kernel)), (List.mem_of_getElem? (i := 31) (by decide +kernel)), ⟨by decide +kernel, by decide +kernel⟩, by decide +kernel, by decide⟩, (List.mem_of_getElem? (i := 1426) (by decide +kernel))⟩
abbrev mJ5_length_8abf5 : zM := (yJ5_length_8abf5, cJ5_length_8abf5, 1, (some .int))
theorem vJ5_length_8abf5 : zMeB mJ5_length_8abf5 0 ∧ Cond.instanceMethod mJ5_length_8abf5.1 ∈ lw_tbl := ⟨⟨(List.mem_of_getElem? (i := 977) (by decide +kernel)), (List.mem_of_getElem? (i := 31) (by decide +kernel)), ⟨by decide +kernel, by decide +kernel⟩, by decide +kernel, by decide⟩, (List.mem_of_getElem? (i := 971) (by decide +kernel))⟩
abbrev mJ5_ensureCapacityInternal_d00df : zM := (yJ5_ensureCapacityInternal_d00df, cJ5_ensureCapacityInternal_d00df, 3, none)
theorem vJ5_ensureCapacityInternal_d00df : zMeB mJ5_ensureCapacityInternal_d00df 1 ∧ Cond.instanceMethod mJ5_ensureCapacityInternal_d00df.1 ∈ lw_tbl := ⟨⟨(List.mem_of_getElem? (i := 828) (by decide +kernel)), (List.mem_of_getElem? (i := 31) (by decide +kernel)), ⟨by decide +kernel, by decide +kernel⟩, by decide +kernel, by decide⟩, (List.mem_of_getElem? (i := 827) (by decide +kernel))⟩
abbrev mJ5_newCapacity_0f7a4 : zM := (yJ5_newCapacity_0f7a4, cJ5_newCapacity_0f7a4, 6, (some .int))
theorem vJ5_newCapacity_0f7a4 : zMeB mJ5_newCapacity_0f7a4 1 ∧ Cond.instanceMethod mJ5_newCapacity_0f7a4.1 ∈ lw_tbl := ⟨⟨(List.mem_of_getElem? (i := 832) (by decide +kernel)), (List.mem_of_getElem? (i := 31) (by decide +kernel)), ⟨by decide +kernel, by decide +kernel⟩, by decide +kernel, by decide⟩, (List.mem_of_getElem? (i := 831) (by decide +kernel))⟩
abbrev mJ5_inflate_da8c8 : zM := (yJ5_inflate_da8c8, cJ5_inflate_da8c8, 2, none)
theorem vJ5_inflate_da8c8 : zMeB mJ5_inflate_da8c8 0 ∧ Cond.instanceMethod mJ5_inflate_da8c8.1 ∈ lw_tbl := ⟨⟨(List.mem_of_getElem? (i := 906) (by decide +kernel)), (List.mem_of_getElem? (i := 31) (by decide +kernel)), ⟨by decide +kernel, by decide +kernel⟩, by decide +kernel, by decide⟩, (List.mem_of_getElem? (i := 905) (by decide +kernel))⟩
abbrev mJ5_setLength_d00df : zM := (yJ5_setLength_d00df, cJ5_setLength_d00df, 2, none)
theorem vJ5_setLength_d00df : zMeB mJ5_setLength_d00df 1 ∧ Cond.instanceMethod mJ5_setLength_d00df.1 ∈ lw_tbl := ⟨⟨(List.mem_of_getElem? (i := 805) (by decide +kernel)), (List.mem_of_getElem? (i := 31) (by decide +kernel)), ⟨by decide +kernel, by decide +kernel⟩, by decide +kernel, by decide⟩, (List.mem_of_getElem? (i := 804) (by decide +kernel))⟩
abbrev mJ5_charAt_5068e : zM := (yJ5_charAt_5068e, cJ5_charAt_5068e, 5, (some .char))
theorem vJ5_charAt_5068e : zMeB mJ5_charAt_5068e 1 ∧ Cond.instanceMethod mJ5_charAt_5068e.1 ∈ lw_tbl := ⟨⟨(List.mem_of_getElem? (i := 1107) (by decide +kernel)), (List.mem_of_getElem? (i := 31) (by decide +kernel)), ⟨by decide +kernel, by decide +kernel⟩, by decide +kernel, by decide⟩, (List.mem_of_getElem? (i := 1106) (by decide +kernel))⟩
abbrev mJ5_append_cf1ce : zM := (yJ5_append_cf1ce, cJ5_append_cf1ce, 3, (some (.object "java/lang/AbstractStringBuilder")))
theorem vJ5_append_cf1ce : zMeB mJ5_append_cf1ce 1 ∧ Cond.instanceMethod mJ5_append_cf1ce.1 ∈ lw_tbl := ⟨⟨(List.mem_of_getElem? (i := 820) (by decide +kernel)), (List.mem_of_getElem? (i := 31) (by decide +kernel)), ⟨by decide +kernel, by decide +kernel⟩, by decide +kernel, by decide⟩, (List.mem_of_getElem? (i := 819) (by decide +kernel))⟩
abbrev mJ5_appendNull_278bc : zM := (yJ5_appendNull_278bc, cJ5_appendNull_278bc, 3, (some (.object "java/lang/AbstractStringBuilder")))
theorem vJ5_appendNull_278bc : zMeB mJ5_appendNull_278bc 0 ∧ Cond.instanceMethod mJ5_appendNull_278bc.1 ∈ lw_tbl := ⟨⟨(List.mem_of_getElem? (i := 824) (by decide +kernel)), (List.mem_of_getElem? (i := 31) (by decide +kernel)), ⟨by decide +kernel, by decide +kernel⟩, by decide +kernel, by decide⟩, (List.mem_of_getElem? (i := 823) (by decide +kernel))⟩
abbrev mJ5_append_3fe6f : zM := (yJ5_append_3fe6f, cJ5_append_3fe6f, 2, (some (.object "java/lang/AbstractStringBuilder")))
theorem vJ5_append_3fe6f : zMeB mJ5_append_3fe6f 1 ∧ Cond.instanceMethod mJ5_append_3fe6f.1 ∈ lw_tbl := ⟨⟨(List.mem_of_getElem? (i := 1056) (by decide +kernel)), (List.mem_of_getElem? (i := 31) (by decide +kernel)), ⟨by decide +kernel, by decide +kernel⟩, by decide +kernel, by decide⟩, (List.mem_of_getElem? (i := 1055) (by decide +kernel))⟩
abbrev mJ5_append_c97b9 : zM := (yJ5_append_c97b9, cJ5_append_c97b9, 4, (some (.object "java/lang/AbstractStringBuilder")))
theorem vJ5_append_c97b9 : zMeB mJ5_append_c97b9 1 ∧ Cond.instanceMethod mJ5_append_c97b9.1 ∈ lw_tbl := ⟨⟨(List.mem_of_getElem? (i := 934) (by decide +kernel)), (List.mem_of_getElem? (i := 31) (by decide +kernel)), ⟨by decide +kernel, by decide +kernel⟩, by decide +kernel, by decide⟩, (List.mem_of_getElem? (i := 933) (by decide +kernel))⟩
abbrev mJ5_getValue_6d5f1 : zM := (yJ5_getValue_6d5f1, cJ5_getValue_6d5f1, 1, (some (.array .byte)))
theorem vJ5_getValue_6d5f1 : zMeB mJ5_getValue_6d5f1 0 ∧ Cond.instanceMethod mJ5_getValue_6d5f1.1 ∈ lw_tbl := ⟨⟨(List.mem_of_getElem? (i := 969) (by decide +kernel)), (List.mem_of_getElem? (i := 31) (by decide +kernel)), ⟨by decide +kernel, by decide +kernel⟩, by decide +kernel, by decide⟩, (List.mem_of_getElem? (i := 966) (by decide +kernel))⟩
abbrev mJ5_isLatin1_aae02 : zM := (yJ5_isLatin1_aae02, cJ5_isLatin1_aae02, 1, (some .boolean))
theorem vJ5_isLatin1_aae02 : zMeB mJ5_isLatin1_aae02 0 ∧ Cond.instanceMethod mJ5_isLatin1_aae02.1 ∈ lw_tbl := ⟨⟨(List.mem_of_getElem? (i := 858) (by decide +kernel)), (List.mem_of_getElem? (i := 31) (by decide +kernel)), ⟨by decide +kernel, by decide +kernel⟩, by decide +kernel, by decide⟩, (List.mem_of_getElem? (i := 855) (by decide +kernel))⟩
abbrev mJ5_inflateIfNeededFor_a7421 : zM := (yJ5_inflateIfNeededFor_a7421, cJ5_inflateIfNeededFor_a7421, 2, none)
theorem vJ5_inflateIfNeededFor_a7421 : zMeB mJ5_inflateIfNeededFor_a7421 1 ∧ Cond.instanceMethod mJ5_inflateIfNeededFor_a7421.1 ∈ lw_tbl := ⟨⟨(List.mem_of_getElem? (i := 901) (by decide +kernel)), (List.mem_of_getElem? (i := 31) (by decide +kernel)), ⟨by decide +kernel, by decide +kernel⟩, by decide +kernel, by decide⟩, (List.mem_of_getElem? (i := 900) (by decide +kernel))⟩
abbrev mJ5_putStringAt_47b60 : zM := (yJ5_putStringAt_47b60, cJ5_putStringAt_47b60, 3, none)
theorem vJ5_putStringAt_47b60 : zMeB mJ5_putStringAt_47b60 2 ∧ Cond.instanceMethod mJ5_putStringAt_47b60.1 ∈ lw_tbl := ⟨⟨(List.mem_of_getElem? (i := 897) (by decide +kernel)), (List.mem_of_getElem? (i := 31) (by decide +kernel)), ⟨by decide +kernel, by decide +kernel⟩, by decide +kernel, by decide⟩, (List.mem_of_getElem? (i := 896) (by decide +kernel))⟩
abbrev mJx00060_init_a7421 : zM := (yJx00060_init_a7421, cJx00060_init_a7421, 2, none)
theorem vJx00060_init_a7421 : zMeB mJx00060_init_a7421 1 ∧ Cond.instanceMethod mJx00060_init_a7421.1 ∈ lw_tbl := ⟨⟨(List.mem_of_getElem? (i := 675) (by decide +kernel)), (List.mem_of_getElem? (i := 48) (by decide +kernel)), ⟨by decide +kernel, by decide +kernel⟩, by decide +kernel, by decide⟩, (List.mem_of_getElem? (i := 674) (by decide +kernel))⟩
abbrev mJx00060_init_d00df : zM := (yJx00060_init_d00df, cJx00060_init_d00df, 2, none)
theorem vJx00060_init_d00df : zMeB mJx00060_init_d00df 1 ∧ Cond.instanceMethod mJx00060_init_d00df.1 ∈ lw_tbl := ⟨⟨(List.mem_of_getElem? (i := 1039) (by decide +kernel)), (List.mem_of_getElem? (i := 48) (by decide +kernel)), ⟨by decide +kernel, by decide +kernel⟩, by decide +kernel, by decide⟩, (List.mem_of_getElem? (i := 1038) (by decide +kernel))⟩
abbrev mJ6_getChars_ba4f3 : zM := (yJ6_getChars_ba4f3, cJ6_getChars_ba4f3, 7, (some .int))
theorem vJ6_getChars_ba4f3 : zMeS mJ6_getChars_ba4f3 3 := ⟨⟨(List.mem_of_getElem? (i := 940) (by decide +kernel)), (List.mem_of_getElem? (i := 45) (by decide +kernel)), ⟨by decide +kernel, by decide +kernel⟩, by decide +kernel, by decide⟩, (List.mem_of_getElem? (i := 939) (by decide +kernel))⟩
abbrev mJ6_stringSize_0f7a4 : zM := (yJ6_stringSize_0f7a4, cJ6_stringSize_0f7a4, 4, (some .int))
theorem vJ6_stringSize_0f7a4 : zMeS mJ6_stringSize_0f7a4 1 := ⟨⟨(List.mem_of_getElem? (i := 937) (by decide +kernel)), (List.mem_of_getElem? (i := 45) (by decide +kernel)), ⟨by decide +kernel, by decide +kernel⟩, by decide +kernel, by decide⟩, (List.mem_of_getElem? (i := 936) (by decide +kernel))⟩
abbrev mJ6_bitCount_0f7a4 : zM := (yJ6_bitCount_0f7a4, cJ6_bitCount_0f7a4, 1, (some .int))
theorem vJ6_bitCount_0f7a4 : zMeS mJ6_bitCount_0f7a4 1 := ⟨⟨(List.mem_of_getElem? (i := 370) (by decide +kernel)), (List.mem_of_getElem? (i := 45) (by decide +kernel)), ⟨by decide +kernel, by decide +kernel⟩, by decide +kernel, by decide⟩, (List.mem_of_getElem? (i := 369) (by decide +kernel))⟩
abbrev mJ9_max_7cf53 : zM := (yJ9_max_7cf53, cJ9_max_7cf53, 2, (some .int))
theorem vJ9_max_7cf53 : zMeS mJ9_max_7cf53 2 := ⟨⟨(List.mem_of_getElem? (i := 668) (by decide +kernel)), (List.mem_of_getElem? (i := 46) (by decide +kernel)), ⟨by decide +kernel, by decide +kernel⟩, by decide +kernel, by decide⟩, (List.mem_of_getElem? (i := 667) (by decide +kernel))⟩
abbrev mJ9_min_7cf53 : zM := (yJ9_min_7cf53, cJ9_min_7cf53, 2, (some .int))
theorem vJ9_min_7cf53 : zMeS mJ9_min_7cf53 2 := ⟨⟨(List.mem_of_getElem? (i := 355) (by decide +kernel)), (List.mem_of_getElem? (i := 46) (by decide +kernel)), ⟨by decide +kernel, by decide +kernel⟩, by decide +kernel, by decide⟩, (List.mem_of_getElem? (i := 354) (by decide +kernel))⟩
abbrev mJ0_init_81219 : zM := (yJ0_init_81219, cJ0_init_81219, 2, none)
theorem vJ0_init_81219 : zMeB mJ0_init_81219 1 ∧ Cond.instanceMethod mJ0_init_81219.1 ∈ lw_tbl := ⟨⟨(List.mem_of_getElem? (i := 960) (by decide +kernel)), (List.mem_of_getElem? (i := 33) (by decide +kernel)), ⟨by decide +kernel, by decide +kernel⟩, by decide +kernel, by decide⟩, (List.mem_of_getElem? (i := 959) (by decide +kernel))⟩
abbrev mJ0_length_8abf5 : zM := (yJ0_length_8abf5, cJ0_length_8abf5, 1, (some .int))
theorem vJ0_length_8abf5 : zMeV mJ0_length_8abf5 0 := ⟨⟨(List.mem_of_getElem? (i := 888) (by decide +kernel)), (List.mem_of_getElem? (i := 33) (by decide +kernel)), ⟨by decide +kernel, by decide +kernel⟩, by decide +kernel, by decide⟩, (List.mem_of_getElem? (i := 886) (by decide +kernel)), (List.mem_of_getElem? (i := 887) (by decide +kernel))⟩
abbrev mJ0_charAt_5068e : zM := (yJ0_charAt_5068e, cJ0_charAt_5068e, 2, (some .char))
theorem vJ0_charAt_5068e : zMeV mJ0_charAt_5068e 1 := ⟨⟨(List.mem_of_getElem? (i := 1160) (by decide +kernel)), (List.mem_of_getElem? (i := 33) (by decide +kernel)), ⟨by decide +kernel, by decide +kernel⟩, by decide +kernel, by decide⟩, (List.mem_of_getElem? (i := 1158) (by decide +kernel)), (List.mem_of_getElem? (i := 1159) (by decide +kernel))⟩
abbrev mJ0_equals_9ea2d : zM := (yJ0_equals_9ea2d, cJ0_equals_9ea2d, 3, (some .boolean))
theorem vJ0_equals_9ea2d : zMeV mJ0_equals_9ea2d 1 := ⟨⟨(List.mem_of_getElem? (i := 1389) (by decide +kernel)), (List.mem_of_getElem? (i := 33) (by decide +kernel)), ⟨by decide +kernel, by decide +kernel⟩, by decide +kernel, by decide⟩, (List.mem_of_getElem? (i := 1387) (by decide +kernel)), (List.mem_of_getElem? (i := 1388) (by decide +kernel))⟩
abbrev mJ0_getBytes_840e7 : zM := (yJ0_getBytes_840e7, cJ0_getBytes_840e7, 4, none)
theorem vJ0_getBytes_840e7 : zMeV mJ0_getBytes_840e7 3 := ⟨⟨(List.mem_of_getElem? (i := 925) (by decide +kernel)), (List.mem_of_getElem? (i := 33) (by decide +kernel)), ⟨by decide +kernel, by decide +kernel⟩, by decide +kernel, by decide⟩, (List.mem_of_getElem? (i := 923) (by decide +kernel)), (List.mem_of_getElem? (i := 924) (by decide +kernel))⟩
abbrev mJ0_init_db425 : zM := (yJ0_init_db425, cJ0_init_db425, 5, none)
theorem vJ0_init_db425 : zMeB mJ0_init_db425 2 ∧ Cond.instanceMethod mJ0_init_db425.1 ∈ lw_tbl := ⟨⟨(List.mem_of_getElem? (i := 963) (by decide +kernel)), (List.mem_of_getElem? (i := 33) (by decide +kernel)), ⟨by decide +kernel, by decide +kernel⟩, by decide +kernel, by decide⟩, (List.mem_of_getElem? (i := 962) (by decide +kernel))⟩
abbrev mJ0_coder_7d493 : zM := (yJ0_coder_7d493, cJ0_coder_7d493, 1, (some .byte))
theorem vJ0_coder_7d493 : zMeV mJ0_coder_7d493 0 := ⟨⟨(List.mem_of_getElem? (i := 892) (by decide +kernel)), (List.mem_of_getElem? (i := 33) (by decide +kernel)), ⟨by decide +kernel, by decide +kernel⟩, by decide +kernel, by decide⟩, (List.mem_of_getElem? (i := 890) (by decide +kernel)), (List.mem_of_getElem? (i := 891) (by decide +kernel))⟩
abbrev mJ0_isLatin1_aae02 : zM := (yJ0_isLatin1_aae02, cJ0_isLatin1_aae02, 1, (some .boolean))
theorem vJ0_isLatin1_aae02 : zMeV mJ0_isLatin1_aae02 0 := ⟨⟨(List.mem_of_getElem? (i := 1164) (by decide +kernel)), (List.mem_of_getElem? (i := 33) (by decide +kernel)), ⟨by decide +kernel, by decide +kernel⟩, by decide +kernel, by decide⟩, (List.mem_of_getElem? (i := 1162) (by decide +kernel)), (List.mem_of_getElem? (i := 1163) (by decide +kernel))⟩
abbrev mJ0_checkIndex_df160 : zM := (yJ0_checkIndex_df160, cJ0_checkIndex_df160, 2, none)
theorem vJ0_checkIndex_df160 : zMeS mJ0_checkIndex_df160 2 := ⟨⟨(List.mem_of_getElem? (i := 1068) (by decide +kernel)), (List.mem_of_getElem? (i := 33) (by decide +kernel)), ⟨by decide +kernel, by decide +kernel⟩, by decide +kernel, by decide⟩, (List.mem_of_getElem? (i := 1067) (by decide +kernel))⟩
abbrev mJ0_checkBoundsOffCount_cabcc : zM := (yJ0_checkBoundsOffCount_cabcc, cJ0_checkBoundsOffCount_cabcc, 3, (some .int))
theorem vJ0_checkBoundsOffCount_cabcc : zMeS mJ0_checkBoundsOffCount_cabcc 3 := ⟨⟨(List.mem_of_getElem? (i := 918) (by decide +kernel)), (List.mem_of_getElem? (i := 33) (by decide +kernel)), ⟨by decide +kernel, by decide +kernel⟩, by decide +kernel, by decide⟩, (List.mem_of_getElem? (i := 917) (by decide +kernel))⟩
abbrev mJ0_checkBoundsBeginEnd_23922 : zM := (yJ0_checkBoundsBeginEnd_23922, cJ0_checkBoundsBeginEnd_23922, 3, none)
theorem vJ0_checkBoundsBeginEnd_23922 : zMeS mJ0_checkBoundsBeginEnd_23922 3 := ⟨⟨(List.mem_of_getElem? (i := 870) (by decide +kernel)), (List.mem_of_getElem? (i := 33) (by decide +kernel)), ⟨by decide +kernel, by decide +kernel⟩, by decide +kernel, by decide⟩, (List.mem_of_getElem? (i := 869) (by decide +kernel))⟩
abbrev mJ4_init_da8c8 : zM := (yJ4_init_da8c8, cJ4_init_da8c8, 1, none)
theorem vJ4_init_da8c8 : zMeB mJ4_init_da8c8 0 ∧ Cond.instanceMethod mJ4_init_da8c8.1 ∈ lw_tbl := ⟨⟨(List.mem_of_getElem? (i := 238) (by decide +kernel)), (List.mem_of_getElem? (i := 32) (by decide +kernel)), ⟨by decide +kernel, by decide +kernel⟩, by decide +kernel, by decide⟩, (List.mem_of_getElem? (i := 237) (by decide +kernel))⟩
abbrev mJ4_init_a7421 : zM := (yJ4_init_a7421, cJ4_init_a7421, 2, none)
theorem vJ4_init_a7421 : zMeB mJ4_init_a7421 1 ∧ Cond.instanceMethod mJ4_init_a7421.1 ∈ lw_tbl := ⟨⟨(List.mem_of_getElem? (i := 1424) (by decide +kernel)), (List.mem_of_getElem? (i := 32) (by decide +kernel)), ⟨by decide +kernel, by decide +kernel⟩, by decide +kernel, by decide⟩, (List.mem_of_getElem? (i := 1423) (by decide +kernel))⟩
abbrev mJ4_append_15ec4 : zM := (yJ4_append_15ec4, cJ4_append_15ec4, 2, (some (.object "java/lang/StringBuilder")))
theorem vJ4_append_15ec4 : zMeV mJ4_append_15ec4 1 := ⟨⟨(List.mem_of_getElem? (i := 817) (by decide +kernel)), (List.mem_of_getElem? (i := 32) (by decide +kernel)), ⟨by decide +kernel, by decide +kernel⟩, by decide +kernel, by decide⟩, (List.mem_of_getElem? (i := 815) (by decide +kernel)), (List.mem_of_getElem? (i := 816) (by decide +kernel))⟩
abbrev mJ4_append_cf468 : zM := (yJ4_append_cf468, cJ4_append_cf468, 2, (some (.object "java/lang/StringBuilder")))
theorem vJ4_append_cf468 : zMeV mJ4_append_cf468 1 := ⟨⟨(List.mem_of_getElem? (i := 1053) (by decide +kernel)), (List.mem_of_getElem? (i := 32) (by decide +kernel)), ⟨by decide +kernel, by decide +kernel⟩, by decide +kernel, by decide⟩, (List.mem_of_getElem? (i := 1051) (by decide +kernel)), (List.mem_of_getElem? (i := 1052) (by decide +kernel))⟩
abbrev mJ4_append_bf812 : zM := (yJ4_append_bf812, cJ4_append_bf812, 2, (some (.object "java/lang/StringBuilder")))
theorem vJ4_append_bf812 : zMeV mJ4_append_bf812 1 := ⟨⟨(List.mem_of_getElem? (i := 931) (by decide +kernel)), (List.mem_of_getElem? (i := 32) (by decide +kernel)), ⟨by decide +kernel, by decide +kernel⟩, by decide +kernel, by decide⟩, (List.mem_of_getElem? (i := 929) (by decide +kernel)), (List.mem_of_getElem? (i := 930) (by decide +kernel))⟩
abbrev mJ4_toString_0e30d : zM := (yJ4_toString_0e30d, cJ4_toString_0e30d, 1, (some (.object "java/lang/String")))
theorem vJ4_toString_0e30d : zMeV mJ4_toString_0e30d 0 := ⟨⟨(List.mem_of_getElem? (i := 956) (by decide +kernel)), (List.mem_of_getElem? (i := 32) (by decide +kernel)), ⟨by decide +kernel, by decide +kernel⟩, by decide +kernel, by decide⟩, (List.mem_of_getElem? (i := 954) (by decide +kernel)), (List.mem_of_getElem? (i := 955) (by decide +kernel))⟩
abbrev mJ4_append_cf1ce : zM := (yJ4_append_cf1ce, cJ4_append_cf1ce, 2, (some (.object "java/lang/AbstractStringBuilder")))
theorem vJ4_append_cf1ce : zMeB mJ4_append_cf1ce 1 ∧ Cond.instanceMethod mJ4_append_cf1ce.1 ∈ lw_tbl := ⟨⟨(List.mem_of_getElem? (i := 1431) (by decide +kernel)), (List.mem_of_getElem? (i := 32) (by decide +kernel)), ⟨by decide +kernel, by decide +kernel⟩, by decide +kernel, by decide⟩, (List.mem_of_getElem? (i := 1430) (by decide +kernel))⟩
abbrev mJ4_charAt_5068e : zM := (yJ4_charAt_5068e, cJ4_charAt_5068e, 2, (some .char))
theorem vJ4_charAt_5068e : zMeV mJ4_charAt_5068e 1 := ⟨⟨(List.mem_of_getElem? (i := 1104) (by decide +kernel)), (List.mem_of_getElem? (i := 32) (by decide +kernel)), ⟨by decide +kernel, by decide +kernel⟩, by decide +kernel, by decide⟩, (List.mem_of_getElem? (i := 1102) (by decide +kernel)), (List.mem_of_getElem? (i := 1103) (by decide +kernel))⟩
abbrev mJ4_setLength_d00df : zM := (yJ4_setLength_d00df, cJ4_setLength_d00df, 2, none)
theorem vJ4_setLength_d00df : zMeV mJ4_setLength_d00df 1 := ⟨⟨(List.mem_of_getElem? (i := 802) (by decide +kernel)), (List.mem_of_getElem? (i := 32) (by decide +kernel)), ⟨by decide +kernel, by decide +kernel⟩, by decide +kernel, by decide⟩, (List.mem_of_getElem? (i := 800) (by decide +kernel)), (List.mem_of_getElem? (i := 801) (by decide +kernel))⟩
abbrev mJ4_length_8abf5 : zM := (yJ4_length_8abf5, cJ4_length_8abf5, 1, (some .int))
theorem vJ4_length_8abf5 : zMeV mJ4_length_8abf5 0 := ⟨⟨(List.mem_of_getElem? (i := 975) (by decide +kernel)), (List.mem_of_getElem? (i := 32) (by decide +kernel)), ⟨by decide +kernel, by decide +kernel⟩, by decide +kernel, by decide⟩, (List.mem_of_getElem? (i := 974) (by decide +kernel)), (List.mem_of_getElem? (i := 1543) (by decide +kernel))⟩
abbrev mJx7c733_init_d00df : zM := (yJx7c733_init_d00df, cJx7c733_init_d00df, 2, none)
theorem vJx7c733_init_d00df : zMeB mJx7c733_init_d00df 1 ∧ Cond.instanceMethod mJx7c733_init_d00df.1 ∈ lw_tbl := ⟨⟨(List.mem_of_getElem? (i := 810) (by decide +kernel)), (List.mem_of_getElem? (i := 50) (by decide +kernel)), ⟨by decide +kernel, by decide +kernel⟩, by decide +kernel, by decide⟩, (List.mem_of_getElem? (i := 809) (by decide +kernel))⟩
abbrev mJ1_charAt_3b067 : zM := (yJ1_charAt_3b067, cJ1_charAt_3b067, 2, (some .char))
theorem vJ1_charAt_3b067 : zMeS mJ1_charAt_3b067 2 := ⟨⟨(List.mem_of_getElem? (i := 1167) (by decide +kernel)), (List.mem_of_getElem? (i := 41) (by decide +kernel)), ⟨by decide +kernel, by decide +kernel⟩, by decide +kernel, by decide⟩, (List.mem_of_getElem? (i := 1166) (by decide +kernel))⟩
abbrev mJ1_canEncode_fc78d : zM := (yJ1_canEncode_fc78d, cJ1_canEncode_fc78d, 1, (some .boolean))
theorem vJ1_canEncode_fc78d : zMeS mJ1_canEncode_fc78d 1 := ⟨⟨(List.mem_of_getElem? (i := 1059) (by decide +kernel)), (List.mem_of_getElem? (i := 41) (by decide +kernel)), ⟨by decide +kernel, by decide +kernel⟩, by decide +kernel, by decide⟩, (List.mem_of_getElem? (i := 1058) (by decide +kernel))⟩
abbrev mJ1_equals_b5fdf : zM := (yJ1_equals_b5fdf, cJ1_equals_b5fdf, 3, (some .boolean))
theorem vJ1_equals_b5fdf : zMeS mJ1_equals_b5fdf 2 := ⟨⟨(List.mem_of_getElem? (i := 1393) (by decide +kernel)), (List.mem_of_getElem? (i := 41) (by decide +kernel)), ⟨by decide +kernel, by decide +kernel⟩, by decide +kernel, by decide⟩, (List.mem_of_getElem? (i := 1392) (by decide +kernel))⟩
abbrev mJ1_fillNull_b72d1 : zM := (yJ1_fillNull_b72d1, cJ1_fillNull_b72d1, 3, none)
theorem vJ1_fillNull_b72d1 : zMeS mJ1_fillNull_b72d1 3 := ⟨⟨(List.mem_of_getElem? (i := 1026) (by decide +kernel)), (List.mem_of_getElem? (i := 41) (by decide +kernel)), ⟨by decide +kernel, by decide +kernel⟩, by decide +kernel, by decide⟩, (List.mem_of_getElem? (i := 1025) (by decide +kernel))⟩
abbrev mJ1_inflate_0e8fd : zM := (yJ1_inflate_0e8fd, cJ1_inflate_0e8fd, 5, none)
theorem vJ1_inflate_0e8fd : zMeS mJ1_inflate_0e8fd 5 := ⟨⟨(List.mem_of_getElem? (i := 909) (by decide +kernel)), (List.mem_of_getElem? (i := 41) (by decide +kernel)), ⟨by decide +kernel, by decide +kernel⟩, by decide +kernel, by decide⟩, (List.mem_of_getElem? (i := 908) (by decide +kernel))⟩
abbrev mJ2_newBytesFor_77867 : zM := (yJ2_newBytesFor_77867, cJ2_newBytesFor_77867, 1, (some (.array .byte)))
theorem vJ2_newBytesFor_77867 : zMeS mJ2_newBytesFor_77867 1 := ⟨⟨(List.mem_of_getElem? (i := 247) (by decide +kernel)), (List.mem_of_getElem? (i := 34) (by decide +kernel)), ⟨by decide +kernel, by decide +kernel⟩, by decide +kernel, by decide⟩, (List.mem_of_getElem? (i := 246) (by decide +kernel))⟩
abbrev mJ2_newBytesLength_0f7a4 : zM := (yJ2_newBytesLength_0f7a4, cJ2_newBytesLength_0f7a4, 1, (some .int))
theorem vJ2_newBytesLength_0f7a4 : zMeS mJ2_newBytesLength_0f7a4 1 := ⟨⟨(List.mem_of_getElem? (i := 250) (by decide +kernel)), (List.mem_of_getElem? (i := 34) (by decide +kernel)), ⟨by decide +kernel, by decide +kernel⟩, by decide +kernel, by decide⟩, (List.mem_of_getElem? (i := 249) (by decide +kernel))⟩
abbrev mJ2_putChar_b72d1 : zM := (yJ2_putChar_b72d1, cJ2_putChar_b72d1, 3, none)
theorem vJ2_putChar_b72d1 : zMeS mJ2_putChar_b72d1 3 := ⟨⟨(List.mem_of_getElem? (i := 878) (by decide +kernel)), (List.mem_of_getElem? (i := 34) (by decide +kernel)), ⟨by decide +kernel, by decide +kernel⟩, by decide +kernel, by decide⟩, (List.mem_of_getElem? (i := 877) (by decide +kernel))⟩
abbrev mJ2_getChar_3b067 : zM := (yJ2_getChar_3b067, cJ2_getChar_3b067, 2, (some .char))
theorem vJ2_getChar_3b067 : zMeS mJ2_getChar_3b067 2 := ⟨⟨(List.mem_of_getElem? (i := 1004) (by decide +kernel)), (List.mem_of_getElem? (i := 34) (by decide +kernel)), ⟨by decide +kernel, by decide +kernel⟩, by decide +kernel, by decide⟩, (List.mem_of_getElem? (i := 1003) (by decide +kernel))⟩
abbrev mJ2_length_9d52b : zM := (yJ2_length_9d52b, cJ2_length_9d52b, 1, (some .int))
theorem vJ2_length_9d52b : zMeS mJ2_length_9d52b 1 := ⟨⟨(List.mem_of_getElem? (i := 867) (by decide +kernel)), (List.mem_of_getElem? (i := 34) (by decide +kernel)), ⟨by decide +kernel, by decide +kernel⟩, by decide +kernel, by decide⟩, (List.mem_of_getElem? (i := 866) (by decide +kernel))⟩
abbrev mJ2_coderFromArrayLen_85cad : zM := (yJ2_coderFromArrayLen_85cad, cJ2_coderFromArrayLen_85cad, 2, (some .byte))
theorem vJ2_coderFromArrayLen_85cad : zMeS mJ2_coderFromArrayLen_85cad 2 := ⟨⟨(List.mem_of_getElem? (i := 1008) (by decide +kernel)), (List.mem_of_getElem? (i := 34) (by decide +kernel)), ⟨by decide +kernel, by decide +kernel⟩, by decide +kernel, by decide⟩, (List.mem_of_getElem? (i := 1007) (by decide +kernel))⟩
abbrev mJ2_compress_39247 : zM := (yJ2_compress_39247, cJ2_compress_39247, 6, (some (.array .byte)))
theorem vJ2_compress_39247 : zMeS mJ2_compress_39247 3 := ⟨⟨(List.mem_of_getElem? (i := 998) (by decide +kernel)), (List.mem_of_getElem? (i := 34) (by decide +kernel)), ⟨by decide +kernel, by decide +kernel⟩, by decide +kernel, by decide⟩, (List.mem_of_getElem? (i := 997) (by decide +kernel))⟩
abbrev mJ2_compress_5af95 : zM := (yJ2_compress_5af95, cJ2_compress_5af95, 7, (some .int))
theorem vJ2_compress_5af95 : zMeS mJ2_compress_5af95 5 := ⟨⟨(List.mem_of_getElem? (i := 1001) (by decide +kernel)), (List.mem_of_getElem? (i := 34) (by decide +kernel)), ⟨by decide +kernel, by decide +kernel⟩, by decide +kernel, by decide⟩, (List.mem_of_getElem? (i := 1000) (by decide +kernel))⟩
abbrev mJ2_fillNull_b72d1 : zM := (yJ2_fillNull_b72d1, cJ2_fillNull_b72d1, 3, none)
theorem vJ2_fillNull_b72d1 : zMeS mJ2_fillNull_b72d1 3 := ⟨⟨(List.mem_of_getElem? (i := 1048) (by decide +kernel)), (List.mem_of_getElem? (i := 34) (by decide +kernel)), ⟨by decide +kernel, by decide +kernel⟩, by decide +kernel, by decide⟩, (List.mem_of_getElem? (i := 1047) (by decide +kernel))⟩
abbrev mJ2_putCharSB_b72d1 : zM := (yJ2_putCharSB_b72d1, cJ2_putCharSB_b72d1, 3, none)
theorem vJ2_putCharSB_b72d1 : zMeS mJ2_putCharSB_b72d1 3 := ⟨⟨(List.mem_of_getElem? (i := 1062) (by decide +kernel)), (List.mem_of_getElem? (i := 34) (by decide +kernel)), ⟨by decide +kernel, by decide +kernel⟩, by decide +kernel, by decide⟩, (List.mem_of_getElem? (i := 1061) (by decide +kernel))⟩
abbrev mJ2_getChars_46870 : zM := (yJ2_getChars_46870, cJ2_getChars_46870, 5, (some .int))
theorem vJ2_getChars_46870 : zMeS mJ2_getChars_46870 4 := ⟨⟨(List.mem_of_getElem? (i := 947) (by decide +kernel)), (List.mem_of_getElem? (i := 34) (by decide +kernel)), ⟨by decide +kernel, by decide +kernel⟩, by decide +kernel, by decide⟩, (List.mem_of_getElem? (i := 946) (by decide +kernel))⟩
abbrev mJ2_putCharsAt_cd4e5 : zM := (yJ2_putCharsAt_cd4e5, cJ2_putCharsAt_cd4e5, 7, (some .int))
theorem vJ2_putCharsAt_cd4e5 : zMeS mJ2_putCharsAt_cd4e5 6 := ⟨⟨(List.mem_of_getElem? (i := 861) (by decide +kernel)), (List.mem_of_getElem? (i := 34) (by decide +kernel)), ⟨by decide +kernel, by decide +kernel⟩, by decide +kernel, by decide⟩, (List.mem_of_getElem? (i := 860) (by decide +kernel))⟩
abbrev mJ2_charAt_3b067 : zM := (yJ2_charAt_3b067, cJ2_charAt_3b067, 2, (some .char))
theorem vJ2_charAt_3b067 : zMeS mJ2_charAt_3b067 2 := ⟨⟨(List.mem_of_getElem? (i := 1171) (by decide +kernel)), (List.mem_of_getElem? (i := 34) (by decide +kernel)), ⟨by decide +kernel, by decide +kernel⟩, by decide +kernel, by decide⟩, (List.mem_of_getElem? (i := 1170) (by decide +kernel))⟩
abbrev mJ2_inflate_0e8fd : zM := (yJ2_inflate_0e8fd, cJ2_inflate_0e8fd, 6, none)
theorem vJ2_inflate_0e8fd : zMeS mJ2_inflate_0e8fd 5 := ⟨⟨(List.mem_of_getElem? (i := 912) (by decide +kernel)), (List.mem_of_getElem? (i := 34) (by decide +kernel)), ⟨by decide +kernel, by decide +kernel⟩, by decide +kernel, by decide⟩, (List.mem_of_getElem? (i := 911) (by decide +kernel))⟩
abbrev mJ2_getChars_ba4f3 : zM := (yJ2_getChars_ba4f3, cJ2_getChars_ba4f3, 7, (some .int))
theorem vJ2_getChars_ba4f3 : zMeS mJ2_getChars_ba4f3 3 := ⟨⟨(List.mem_of_getElem? (i := 950) (by decide +kernel)), (List.mem_of_getElem? (i := 34) (by decide +kernel)), ⟨by decide +kernel, by decide +kernel⟩, by decide +kernel, by decide⟩, (List.mem_of_getElem? (i := 949) (by decide +kernel))⟩
abbrev mJ2_checkIndex_2214a : zM := (yJ2_checkIndex_2214a, cJ2_checkIndex_2214a, 2, none)
theorem vJ2_checkIndex_2214a : zMeS mJ2_checkIndex_2214a 2 := ⟨⟨(List.mem_of_getElem? (i := 1065) (by decide +kernel)), (List.mem_of_getElem? (i := 34) (by decide +kernel)), ⟨by decide +kernel, by decide +kernel⟩, by decide +kernel, by decide⟩, (List.mem_of_getElem? (i := 1064) (by decide +kernel))⟩
abbrev mJ2_checkBoundsBeginEnd_d044e : zM := (yJ2_checkBoundsBeginEnd_d044e, cJ2_checkBoundsBeginEnd_d044e, 3, none)
theorem vJ2_checkBoundsBeginEnd_d044e : zMeS mJ2_checkBoundsBeginEnd_d044e 3 := ⟨⟨(List.mem_of_getElem? (i := 864) (by decide +kernel)), (List.mem_of_getElem? (i := 34) (by decide +kernel)), ⟨by decide +kernel, by decide +kernel⟩, by decide +kernel, by decide⟩, (List.mem_of_getElem? (i := 863) (by decide +kernel))⟩
abbrev mJ2_checkBoundsOffCount_d044e : zM := (yJ2_checkBoundsOffCount_d044e, cJ2_checkBoundsOffCount_d044e, 3, none)
theorem vJ2_checkBoundsOffCount_d044e : zMeS mJ2_checkBoundsOffCount_d044e 3 := ⟨⟨(List.mem_of_getElem? (i := 915) (by decide +kernel)), (List.mem_of_getElem? (i := 34) (by decide +kernel)), ⟨by decide +kernel, by decide +kernel⟩, by decide +kernel, by decide⟩, (List.mem_of_getElem? (i := 914) (by decide +kernel))⟩
abbrev mJ7_rangeCheck_23922 : zM := (yJ7_rangeCheck_23922, cJ7_rangeCheck_23922, 3, none)
theorem vJ7_rangeCheck_23922 : zMeS mJ7_rangeCheck_23922 3 := ⟨⟨(List.mem_of_getElem? (i := 1032) (by decide +kernel)), (List.mem_of_getElem? (i := 52) (by decide +kernel)), ⟨by decide +kernel, by decide +kernel⟩, by decide +kernel, by decide⟩, (List.mem_of_getElem? (i := 1031) (by decide +kernel))⟩
abbrev mJ7_fill_eb02e : zM := (yJ7_fill_eb02e, cJ7_fill_eb02e, 5, none)
theorem vJ7_fill_eb02e : zMeS mJ7_fill_eb02e 4 := ⟨⟨(List.mem_of_getElem? (i := 1029) (by decide +kernel)), (List.mem_of_getElem? (i := 52) (by decide +kernel)), ⟨by decide +kernel, by decide +kernel⟩, by decide +kernel, by decide⟩, (List.mem_of_getElem? (i := 1028) (by decide +kernel))⟩
abbrev mJ7_copyOf_9075b : zM := (yJ7_copyOf_9075b, cJ7_copyOf_9075b, 3, (some (.array .byte)))
theorem vJ7_copyOf_9075b : zMeS mJ7_copyOf_9075b 2 := ⟨⟨(List.mem_of_getElem? (i := 844) (by decide +kernel)), (List.mem_of_getElem? (i := 52) (by decide +kernel)), ⟨by decide +kernel, by decide +kernel⟩, by decide +kernel, by decide⟩, (List.mem_of_getElem? (i := 843) (by decide +kernel))⟩
abbrev mJ7_checkLength_df160 : zM := (yJ7_checkLength_df160, cJ7_checkLength_df160, 2, none)
theorem vJ7_checkLength_df160 : zMeS mJ7_checkLength_df160 2 := ⟨⟨(List.mem_of_getElem? (i := 987) (by decide +kernel)), (List.mem_of_getElem? (i := 52) (by decide +kernel)), ⟨by decide +kernel, by decide +kernel⟩, by decide +kernel, by decide⟩, (List.mem_of_getElem? (i := 986) (by decide +kernel))⟩
abbrev mJ7_copyOfRange_39247 : zM := (yJ7_copyOfRange_39247, cJ7_copyOfRange_39247, 3, (some (.array .byte)))
theorem vJ7_copyOfRange_39247 : zMeS mJ7_copyOfRange_39247 3 := ⟨⟨(List.mem_of_getElem? (i := 981) (by decide +kernel)), (List.mem_of_getElem? (i := 52) (by decide +kernel)), ⟨by decide +kernel, by decide +kernel⟩, by decide +kernel, by decide⟩, (List.mem_of_getElem? (i := 980) (by decide +kernel))⟩
abbrev mJ7_copyOfRangeByte_39247 : zM := (yJ7_copyOfRangeByte_39247, cJ7_copyOfRangeByte_39247, 5, (some (.array .byte)))
theorem vJ7_copyOfRangeByte_39247 : zMeS mJ7_copyOfRangeByte_39247 3 := ⟨⟨(List.mem_of_getElem? (i := 984) (by decide +kernel)), (List.mem_of_getElem? (i := 52) (by decide +kernel)), ⟨by decide +kernel, by decide +kernel⟩, by decide +kernel, by decide⟩, (List.mem_of_getElem? (i := 983) (by decide +kernel))⟩
abbrev mJ8_newLength_cabcc : zM := (yJ8_newLength_cabcc, cJ8_newLength_cabcc, 4, (some .int))
theorem vJ8_newLength_cabcc : zMeS mJ8_newLength_cabcc 3 := ⟨⟨(List.mem_of_getElem? (i := 835) (by decide +kernel)), (List.mem_of_getElem? (i := 51) (by decide +kernel)), ⟨by decide +kernel, by decide +kernel⟩, by decide +kernel, by decide⟩, (List.mem_of_getElem? (i := 834) (by decide +kernel))⟩
abbrev mJ8_hugeLength_7cf53 : zM := (yJ8_hugeLength_7cf53, cJ8_hugeLength_7cf53, 3, (some .int))
theorem vJ8_hugeLength_7cf53 : zMeS mJ8_hugeLength_7cf53 2 := ⟨⟨(List.mem_of_getElem? (i := 840) (by decide +kernel)), (List.mem_of_getElem? (i := 51) (by decide +kernel)), ⟨by decide +kernel, by decide +kernel⟩, by decide +kernel, by decide⟩, (List.mem_of_getElem? (i := 839) (by decide +kernel))⟩
abbrev mJ3_checkIndex_8e157 : zM := (yJ3_checkIndex_8e157, cJ3_checkIndex_8e157, 3, (some .int))
theorem vJ3_checkIndex_8e157 : zMeS mJ3_checkIndex_8e157 3 := ⟨⟨(List.mem_of_getElem? (i := 1071) (by decide +kernel)), (List.mem_of_getElem? (i := 42) (by decide +kernel)), ⟨by decide +kernel, by decide +kernel⟩, by decide +kernel, by decide⟩, (List.mem_of_getElem? (i := 1070) (by decide +kernel))⟩
abbrev mJ3_checkFromToIndex_8c36e : zM := (yJ3_checkFromToIndex_8c36e, cJ3_checkFromToIndex_8c36e, 4, (some .int))
theorem vJ3_checkFromToIndex_8c36e : zMeS mJ3_checkFromToIndex_8c36e 4 := ⟨⟨(List.mem_of_getElem? (i := 875) (by decide +kernel)), (List.mem_of_getElem? (i := 42) (by decide +kernel)), ⟨by decide +kernel, by decide +kernel⟩, by decide +kernel, by decide⟩, (List.mem_of_getElem? (i := 874) (by decide +kernel))⟩
abbrev mJ3_checkFromIndexSize_8c36e : zM := (yJ3_checkFromIndexSize_8c36e, cJ3_checkFromIndexSize_8c36e, 4, (some .int))
theorem vJ3_checkFromIndexSize_8c36e : zMeS mJ3_checkFromIndexSize_8c36e 4 := ⟨⟨(List.mem_of_getElem? (i := 921) (by decide +kernel)), (List.mem_of_getElem? (i := 42) (by decide +kernel)), ⟨by decide +kernel, by decide +kernel⟩, by decide +kernel, by decide⟩, (List.mem_of_getElem? (i := 920) (by decide +kernel))⟩
theorem kJ4_1 : Cond.methodLink RJ4 1 yJ5_init_d00df ∈ lw_tbl := (List.mem_of_getElem? (i := 239) (by decide +kernel))
theorem lJ4_1 : zLk RJ4 1 yJ5_init_d00df := .inl kJ4_1
theorem kJ5_26 : Cond.methodLink RJ5 26 yJ2_newBytesFor_77867 ∈ lw_tbl := (List.mem_of_getElem? (i := 245) (by decide +kernel))
theorem lJ5_26 : zLk RJ5 26 yJ2_newBytesFor_77867 := .inl kJ5_26
theorem kJ2_11 : Cond.methodLink RJ2 11 yJ2_newBytesLength_0f7a4 ∈ lw_tbl := (List.mem_of_getElem? (i := 248) (by decide +kernel))
theorem lJ2_11 : zLk RJ2 11 yJ2_newBytesLength_0f7a4 := .inl kJ2_11
theorem kJ4_333 : Cond.methodLink RJ4 333 yJ5_setLength_d00df ∈ lw_tbl := (List.mem_of_getElem? (i := 803) (by decide +kernel))
theorem lJ4_333 : zLk RJ4 333 yJ5_setLength_d00df := .inl kJ4_333
theorem kJ5_131 : Cond.methodLink RJ5 131 yJx7c733_init_d00df ∈ lw_tbl := (List.mem_of_getElem? (i := 808) (by decide +kernel))
theorem lJ5_131 : zLk RJ5 131 yJx7c733_init_d00df := .inl kJ5_131
theorem kJx7c733_12 : Cond.methodLink RJx7c733 12 yJ4_init_da8c8 ∈ lw_tbl := (List.mem_of_getElem? (i := 812) (by decide +kernel))
theorem lJx7c733_12 : zLk RJx7c733 12 yJ4_init_da8c8 := .inl kJx7c733_12
theorem kJx7c733_15 : Cond.methodLink RJx7c733 15 yJ4_append_15ec4 ∈ lw_tbl := (List.mem_of_getElem? (i := 814) (by decide +kernel))
theorem lJx7c733_15 : zLk RJx7c733 15 yJ4_append_15ec4 := .inl kJx7c733_15
theorem kJ4_29 : Cond.methodLink RJ4 29 yJ5_append_cf1ce ∈ lw_tbl := (List.mem_of_getElem? (i := 818) (by decide +kernel))
theorem lJ4_29 : zLk RJ4 29 yJ5_append_cf1ce := .inl kJ4_29
theorem kJ5_204 : Cond.methodLink RJ5 204 yJ5_appendNull_278bc ∈ lw_tbl := (List.mem_of_getElem? (i := 821) (by decide +kernel))
theorem lJ5_204 : zLk RJ5 204 yJ5_appendNull_278bc := .inl kJ5_204
theorem kJ5_100 : Cond.methodLink RJ5 100 yJ5_ensureCapacityInternal_d00df ∈ lw_tbl := (List.mem_of_getElem? (i := 825) (by decide +kernel))
theorem lJ5_100 : zLk RJ5 100 yJ5_ensureCapacityInternal_d00df := .inl kJ5_100
theorem kJ5_104 : Cond.methodLink RJ5 104 yJ5_newCapacity_0f7a4 ∈ lw_tbl := (List.mem_of_getElem? (i := 829) (by decide +kernel))
theorem lJ5_104 : zLk RJ5 104 yJ5_newCapacity_0f7a4 := .inl kJ5_104
theorem kJ5_114 : Cond.methodLink RJ5 114 yJ8_newLength_cabcc ∈ lw_tbl := (List.mem_of_getElem? (i := 833) (by decide +kernel))
theorem lJ5_114 : zLk RJ5 114 yJ8_newLength_cabcc := .inl kJ5_114
theorem kJ8_194 : Cond.methodLink RJ8 194 yJ9_max_7cf53 ∈ lw_tbl := (List.mem_of_getElem? (i := 836) (by decide +kernel))
theorem lJ8_194 : zLk RJ8 194 yJ9_max_7cf53 := .inl kJ8_194
theorem kJ8_201 : Cond.methodLink RJ8 201 yJ8_hugeLength_7cf53 ∈ lw_tbl := (List.mem_of_getElem? (i := 838) (by decide +kernel))
theorem lJ8_201 : zLk RJ8 201 yJ8_hugeLength_7cf53 := .inl kJ8_201
theorem kJ5_108 : Cond.methodLink RJ5 108 yJ7_copyOf_9075b ∈ lw_tbl := (List.mem_of_getElem? (i := 842) (by decide +kernel))
theorem lJ5_108 : zLk RJ5 108 yJ7_copyOf_9075b := .inl kJ5_108
theorem kJ7_304 : Cond.methodLink RJ7 304 yJ9_min_7cf53 ∈ lw_tbl := (List.mem_of_getElem? (i := 852) (by decide +kernel))
theorem lJ7_304 : zLk RJ7 304 yJ9_min_7cf53 := .inl kJ7_304
theorem kJ5_83 : Cond.methodLink RJ5 83 yJ5_isLatin1_aae02 ∈ lw_tbl := (List.mem_of_getElem? (i := 854) (by decide +kernel))
theorem lJ5_83 : zLk RJ5 83 yJ5_isLatin1_aae02 := .inl kJ5_83
theorem kJ5_226 : Cond.methodLink RJ5 226 yJ2_putCharsAt_cd4e5 ∈ lw_tbl := (List.mem_of_getElem? (i := 859) (by decide +kernel))
theorem lJ5_226 : zLk RJ5 226 yJ2_putCharsAt_cd4e5 := .inl kJ5_226
theorem kJ2_96 : Cond.methodLink RJ2 96 yJ2_checkBoundsBeginEnd_d044e ∈ lw_tbl := (List.mem_of_getElem? (i := 862) (by decide +kernel))
theorem lJ2_96 : zLk RJ2 96 yJ2_checkBoundsBeginEnd_d044e := .inl kJ2_96
theorem kJ2_48 : Cond.methodLink RJ2 48 yJ2_length_9d52b ∈ lw_tbl := (List.mem_of_getElem? (i := 865) (by decide +kernel))
theorem lJ2_48 : zLk RJ2 48 yJ2_length_9d52b := .inl kJ2_48
theorem kJ2_241 : Cond.methodLink RJ2 241 yJ0_checkBoundsBeginEnd_23922 ∈ lw_tbl := (List.mem_of_getElem? (i := 868) (by decide +kernel))
theorem lJ2_241 : zLk RJ2 241 yJ0_checkBoundsBeginEnd_23922 := .inl kJ2_241
theorem kJ0_1062 : Cond.methodLink RJ0 1062 yJ3_checkFromToIndex_8c36e ∈ lw_tbl := (List.mem_of_getElem? (i := 873) (by decide +kernel))
theorem lJ0_1062 : zLk RJ0 1062 yJ3_checkFromToIndex_8c36e := .inl kJ0_1062
theorem kJ2_111 : Cond.methodLink RJ2 111 yJ2_putChar_b72d1 ∈ lw_tbl := (List.mem_of_getElem? (i := 876) (by decide +kernel))
theorem lJ2_111 : zLk RJ2 111 yJ2_putChar_b72d1 := .inl kJ2_111
theorem kJ5_32 : Cond.methodLink RJ5 32 yJ0_length_8abf5 ∈ lw_tbl := (List.mem_of_getElem? (i := 885) (by decide +kernel))
theorem lJ5_32 : zLk RJ5 32 yJ0_length_8abf5 := .inl kJ5_32
theorem kJ0_335 : Cond.methodLink RJ0 335 yJ0_coder_7d493 ∈ lw_tbl := (List.mem_of_getElem? (i := 889) (by decide +kernel))
theorem lJ0_335 : zLk RJ0 335 yJ0_coder_7d493 := .inl kJ0_335
theorem kJ5_208 : Cond.methodLink RJ5 208 yJ5_putStringAt_47b60 ∈ lw_tbl := (List.mem_of_getElem? (i := 894) (by decide +kernel))
theorem lJ5_208 : zLk RJ5 208 yJ5_putStringAt_47b60 := .inl kJ5_208
theorem kJ5_397 : Cond.methodLink RJ5 397 yJ5_inflateIfNeededFor_a7421 ∈ lw_tbl := (List.mem_of_getElem? (i := 898) (by decide +kernel))
theorem lJ5_397 : zLk RJ5 397 yJ5_inflateIfNeededFor_a7421 := .inl kJ5_397
theorem kJ5_40 : Cond.methodLink RJ5 40 yJ0_coder_7d493 ∈ lw_tbl := (List.mem_of_getElem? (i := 902) (by decide +kernel))
theorem lJ5_40 : zLk RJ5 40 yJ0_coder_7d493 := .inl kJ5_40
theorem kJ5_195 : Cond.methodLink RJ5 195 yJ5_inflate_da8c8 ∈ lw_tbl := (List.mem_of_getElem? (i := 903) (by decide +kernel))
theorem lJ5_195 : zLk RJ5 195 yJ5_inflate_da8c8 := .inl kJ5_195
theorem kJ5_125 : Cond.methodLink RJ5 125 yJ1_inflate_0e8fd ∈ lw_tbl := (List.mem_of_getElem? (i := 907) (by decide +kernel))
theorem lJ5_125 : zLk RJ5 125 yJ1_inflate_0e8fd := .inl kJ5_125
theorem kJ1_240 : Cond.methodLink RJ1 240 yJ2_inflate_0e8fd ∈ lw_tbl := (List.mem_of_getElem? (i := 910) (by decide +kernel))
theorem lJ1_240 : zLk RJ1 240 yJ2_inflate_0e8fd := .inl kJ1_240
theorem kJ2_173 : Cond.methodLink RJ2 173 yJ2_checkBoundsOffCount_d044e ∈ lw_tbl := (List.mem_of_getElem? (i := 913) (by decide +kernel))
theorem lJ2_173 : zLk RJ2 173 yJ2_checkBoundsOffCount_d044e := .inl kJ2_173
theorem kJ2_419 : Cond.methodLink RJ2 419 yJ0_checkBoundsOffCount_cabcc ∈ lw_tbl := (List.mem_of_getElem? (i := 916) (by decide +kernel))
theorem lJ2_419 : zLk RJ2 419 yJ0_checkBoundsOffCount_cabcc := .inl kJ2_419
theorem kJ0_1065 : Cond.methodLink RJ0 1065 yJ3_checkFromIndexSize_8c36e ∈ lw_tbl := (List.mem_of_getElem? (i := 919) (by decide +kernel))
theorem lJ0_1065 : zLk RJ0 1065 yJ3_checkFromIndexSize_8c36e := .inl kJ0_1065
theorem kJ5_399 : Cond.methodLink RJ5 399 yJ0_getBytes_840e7 ∈ lw_tbl := (List.mem_of_getElem? (i := 922) (by decide +kernel))
theorem lJ5_399 : zLk RJ5 399 yJ0_getBytes_840e7 := .inl kJ5_399
theorem kJ0_106 : Cond.methodLink RJ0 106 yJ1_inflate_0e8fd ∈ lw_tbl := (List.mem_of_getElem? (i := 927) (by decide +kernel))
theorem lJ0_106 : zLk RJ0 106 yJ1_inflate_0e8fd := .inl kJ0_106
theorem kJx7c733_19 : Cond.methodLink RJx7c733 19 yJ4_append_bf812 ∈ lw_tbl := (List.mem_of_getElem? (i := 928) (by decide +kernel))
theorem lJx7c733_19 : zLk RJx7c733 19 yJ4_append_bf812 := .inl kJx7c733_19
theorem kJ4_53 : Cond.methodLink RJ4 53 yJ5_append_c97b9 ∈ lw_tbl := (List.mem_of_getElem? (i := 932) (by decide +kernel))
theorem lJ4_53 : zLk RJ4 53 yJ5_append_c97b9 := .inl kJ4_53
theorem kJ5_245 : Cond.methodLink RJ5 245 yJ6_stringSize_0f7a4 ∈ lw_tbl := (List.mem_of_getElem? (i := 935) (by decide +kernel))
theorem lJ5_245 : zLk RJ5 245 yJ6_stringSize_0f7a4 := .inl kJ5_245
theorem kJ5_248 : Cond.methodLink RJ5 248 yJ6_getChars_ba4f3 ∈ lw_tbl := (List.mem_of_getElem? (i := 938) (by decide +kernel))
theorem lJ5_248 : zLk RJ5 248 yJ6_getChars_ba4f3 := .inl kJ5_248
theorem kJ5_251 : Cond.methodLink RJ5 251 yJ2_getChars_46870 ∈ lw_tbl := (List.mem_of_getElem? (i := 945) (by decide +kernel))
theorem lJ5_251 : zLk RJ5 251 yJ2_getChars_46870 := .inl kJ5_251
theorem kJ2_393 : Cond.methodLink RJ2 393 yJ2_getChars_ba4f3 ∈ lw_tbl := (List.mem_of_getElem? (i := 948) (by decide +kernel))
theorem lJ2_393 : zLk RJ2 393 yJ2_getChars_ba4f3 := .inl kJ2_393
theorem kJx7c733_22 : Cond.methodLink RJx7c733 22 yJ4_toString_0e30d ∈ lw_tbl := (List.mem_of_getElem? (i := 953) (by decide +kernel))
theorem lJx7c733_22 : zLk RJx7c733 22 yJ4_toString_0e30d := .inl kJx7c733_22
theorem kJ4_137 : Cond.methodLink RJ4 137 yJ0_init_81219 ∈ lw_tbl := (List.mem_of_getElem? (i := 958) (by decide +kernel))
theorem lJ4_137 : zLk RJ4 137 yJ0_init_81219 := .inl kJ4_137
theorem kJ0_489 : Cond.methodLink RJ0 489 yJ0_init_db425 ∈ lw_tbl := (List.mem_of_getElem? (i := 961) (by decide +kernel))
theorem lJ0_489 : zLk RJ0 489 yJ0_init_db425 := .inl kJ0_489
theorem kJ0_552 : Cond.methodLink RJ0 552 yJ5_getValue_6d5f1 ∈ lw_tbl := (List.mem_of_getElem? (i := 965) (by decide +kernel))
theorem lJ0_552 : zLk RJ0 552 yJ5_getValue_6d5f1 := .inl kJ0_552
theorem kJ0_549 : Cond.methodLink RJ0 549 yJ5_length_8abf5 ∈ lw_tbl := (List.mem_of_getElem? (i := 970) (by decide +kernel))
theorem lJ0_549 : zLk RJ0 549 yJ5_length_8abf5 := .inl kJ0_549
theorem kJ4_343 : Cond.methodLink RJ4 343 yJ5_length_8abf5 ∈ lw_tbl := (List.mem_of_getElem? (i := 976) (by decide +kernel))
theorem lJ4_343 : zLk RJ4 343 yJ5_length_8abf5 := .inl kJ4_343
theorem kJ0_1047 : Cond.methodLink RJ0 1047 yJ5_isLatin1_aae02 ∈ lw_tbl := (List.mem_of_getElem? (i := 978) (by decide +kernel))
theorem lJ0_1047 : zLk RJ0 1047 yJ5_isLatin1_aae02 := .inl kJ0_1047
theorem kJ0_54 : Cond.methodLink RJ0 54 yJ7_copyOfRange_39247 ∈ lw_tbl := (List.mem_of_getElem? (i := 979) (by decide +kernel))
theorem lJ0_54 : zLk RJ0 54 yJ7_copyOfRange_39247 := .inl kJ0_54
theorem kJ7_339 : Cond.methodLink RJ7 339 yJ7_copyOfRangeByte_39247 ∈ lw_tbl := (List.mem_of_getElem? (i := 982) (by decide +kernel))
theorem lJ7_339 : zLk RJ7 339 yJ7_copyOfRangeByte_39247 := .inl kJ7_339
theorem kJ7_343 : Cond.methodLink RJ7 343 yJ7_checkLength_df160 ∈ lw_tbl := (List.mem_of_getElem? (i := 985) (by decide +kernel))
theorem lJ7_343 : zLk RJ7 343 yJ7_checkLength_df160 := .inl kJ7_343
theorem kJ7_47 : Cond.methodLink RJ7 47 yJ4_init_da8c8 ∈ lw_tbl := (List.mem_of_getElem? (i := 990) (by decide +kernel))
theorem lJ7_47 : zLk RJ7 47 yJ4_init_da8c8 := .inl kJ7_47
theorem kJ7_54 : Cond.methodLink RJ7 54 yJ4_append_bf812 ∈ lw_tbl := (List.mem_of_getElem? (i := 991) (by decide +kernel))
theorem lJ7_54 : zLk RJ7 54 yJ4_append_bf812 := .inl kJ7_54
theorem kJ7_50 : Cond.methodLink RJ7 50 yJ4_append_15ec4 ∈ lw_tbl := (List.mem_of_getElem? (i := 993) (by decide +kernel))
theorem lJ7_50 : zLk RJ7 50 yJ4_append_15ec4 := .inl kJ7_50
theorem kJ7_61 : Cond.methodLink RJ7 61 yJ4_toString_0e30d ∈ lw_tbl := (List.mem_of_getElem? (i := 994) (by decide +kernel))
theorem lJ7_61 : zLk RJ7 61 yJ4_toString_0e30d := .inl kJ7_61
theorem kJ0_1051 : Cond.methodLink RJ0 1051 yJ2_compress_39247 ∈ lw_tbl := (List.mem_of_getElem? (i := 996) (by decide +kernel))
theorem lJ0_1051 : zLk RJ0 1051 yJ2_compress_39247 := .inl kJ0_1051
theorem kJ2_123 : Cond.methodLink RJ2 123 yJ2_compress_5af95 ∈ lw_tbl := (List.mem_of_getElem? (i := 999) (by decide +kernel))
theorem lJ2_123 : zLk RJ2 123 yJ2_compress_5af95 := .inl kJ2_123
theorem kJ2_71 : Cond.methodLink RJ2 71 yJ2_getChar_3b067 ∈ lw_tbl := (List.mem_of_getElem? (i := 1002) (by decide +kernel))
theorem lJ2_71 : zLk RJ2 71 yJ2_getChar_3b067 := .inl kJ2_71
theorem kJ2_126 : Cond.methodLink RJ2 126 yJ7_copyOfRange_39247 ∈ lw_tbl := (List.mem_of_getElem? (i := 1005) (by decide +kernel))
theorem lJ2_126 : zLk RJ2 126 yJ7_copyOfRange_39247 := .inl kJ2_126
theorem kJ0_47 : Cond.methodLink RJ0 47 yJ2_coderFromArrayLen_85cad ∈ lw_tbl := (List.mem_of_getElem? (i := 1006) (by decide +kernel))
theorem lJ0_47 : zLk RJ0 47 yJ2_coderFromArrayLen_85cad := .inl kJ0_47
theorem kJ5_133 : Cond.methodLink RJ5 133 yJ1_fillNull_b72d1 ∈ lw_tbl := (List.mem_of_getElem? (i := 1024) (by decide +kernel))
theorem lJ5_133 : zLk RJ5 133 yJ1_fillNull_b72d1 := .inl kJ5_133
theorem kJ1_236 : Cond.methodLink RJ1 236 yJ7_fill_eb02e ∈ lw_tbl := (List.mem_of_getElem? (i := 1027) (by decide +kernel))
theorem lJ1_236 : zLk RJ1 236 yJ7_fill_eb02e := .inl kJ1_236
theorem kJ7_13 : Cond.methodLink RJ7 13 yJ7_rangeCheck_23922 ∈ lw_tbl := (List.mem_of_getElem? (i := 1030) (by decide +kernel))
theorem lJ7_13 : zLk RJ7 13 yJ7_rangeCheck_23922 := .inl kJ7_13
theorem kJ7_70 : Cond.methodLink RJ7 70 yJx00060_init_d00df ∈ lw_tbl := (List.mem_of_getElem? (i := 1037) (by decide +kernel))
theorem lJ7_70 : zLk RJ7 70 yJx00060_init_d00df := .inl kJ7_70
theorem kJx00060_12 : Cond.methodLink RJx00060 12 yJ4_init_da8c8 ∈ lw_tbl := (List.mem_of_getElem? (i := 1041) (by decide +kernel))
theorem lJx00060_12 : zLk RJx00060 12 yJ4_init_da8c8 := .inl kJx00060_12
theorem kJx00060_15 : Cond.methodLink RJx00060 15 yJ4_append_15ec4 ∈ lw_tbl := (List.mem_of_getElem? (i := 1043) (by decide +kernel))
theorem lJx00060_15 : zLk RJx00060 15 yJ4_append_15ec4 := .inl kJx00060_15
theorem kJx00060_19 : Cond.methodLink RJx00060 19 yJ4_append_bf812 ∈ lw_tbl := (List.mem_of_getElem? (i := 1044) (by decide +kernel))
theorem lJx00060_19 : zLk RJx00060 19 yJ4_append_bf812 := .inl kJx00060_19
theorem kJx00060_22 : Cond.methodLink RJx00060 22 yJ4_toString_0e30d ∈ lw_tbl := (List.mem_of_getElem? (i := 1045) (by decide +kernel))
theorem lJx00060_22 : zLk RJx00060 22 yJ4_toString_0e30d := .inl kJx00060_22
theorem kJ5_137 : Cond.methodLink RJ5 137 yJ2_fillNull_b72d1 ∈ lw_tbl := (List.mem_of_getElem? (i := 1046) (by decide +kernel))
theorem lJ5_137 : zLk RJ5 137 yJ2_fillNull_b72d1 := .inl kJ5_137
theorem kJ2_380 : Cond.methodLink RJ2 380 yJ7_fill_eb02e ∈ lw_tbl := (List.mem_of_getElem? (i := 1049) (by decide +kernel))
theorem lJ2_380 : zLk RJ2 380 yJ7_fill_eb02e := .inl kJ2_380
theorem kJ4_50 : Cond.methodLink RJ4 50 yJ5_append_3fe6f ∈ lw_tbl := (List.mem_of_getElem? (i := 1054) (by decide +kernel))
theorem lJ4_50 : zLk RJ4 50 yJ5_append_3fe6f := .inl kJ4_50
theorem kJ5_191 : Cond.methodLink RJ5 191 yJ1_canEncode_fc78d ∈ lw_tbl := (List.mem_of_getElem? (i := 1057) (by decide +kernel))
theorem lJ5_191 : zLk RJ5 191 yJ1_canEncode_fc78d := .inl kJ5_191
theorem kJ5_197 : Cond.methodLink RJ5 197 yJ2_putCharSB_b72d1 ∈ lw_tbl := (List.mem_of_getElem? (i := 1060) (by decide +kernel))
theorem lJ5_197 : zLk RJ5 197 yJ2_putCharSB_b72d1 := .inl kJ5_197
theorem kJ2_67 : Cond.methodLink RJ2 67 yJ2_checkIndex_2214a ∈ lw_tbl := (List.mem_of_getElem? (i := 1063) (by decide +kernel))
theorem lJ2_67 : zLk RJ2 67 yJ2_checkIndex_2214a := .inl kJ2_67
theorem kJ2_414 : Cond.methodLink RJ2 414 yJ0_checkIndex_df160 ∈ lw_tbl := (List.mem_of_getElem? (i := 1066) (by decide +kernel))
theorem lJ2_414 : zLk RJ2 414 yJ0_checkIndex_df160 := .inl kJ2_414
theorem kJ0_1059 : Cond.methodLink RJ0 1059 yJ3_checkIndex_8e157 ∈ lw_tbl := (List.mem_of_getElem? (i := 1069) (by decide +kernel))
theorem lJ0_1059 : zLk RJ0 1059 yJ3_checkIndex_8e157 := .inl kJ0_1059
theorem kJ4_329 : Cond.methodLink RJ4 329 yJ5_charAt_5068e ∈ lw_tbl := (List.mem_of_getElem? (i := 1105) (by decide +kernel))
theorem lJ4_329 : zLk RJ4 329 yJ5_charAt_5068e := .inl kJ4_329
theorem kJ5_138 : Cond.methodLink RJ5 138 yJ9_min_7cf53 ∈ lw_tbl := (List.mem_of_getElem? (i := 1108) (by decide +kernel))
theorem lJ5_138 : zLk RJ5 138 yJ9_min_7cf53 := .inl kJ5_138
theorem kJ5_144 : Cond.methodLink RJ5 144 yJ0_checkIndex_df160 ∈ lw_tbl := (List.mem_of_getElem? (i := 1109) (by decide +kernel))
theorem lJ5_144 : zLk RJ5 144 yJ0_checkIndex_df160 := .inl kJ5_144
theorem kJ5_148 : Cond.methodLink RJ5 148 yJ2_getChar_3b067 ∈ lw_tbl := (List.mem_of_getElem? (i := 1110) (by decide +kernel))
theorem lJ5_148 : zLk RJ5 148 yJ2_getChar_3b067 := .inl kJ5_148
theorem kJ0_492 : Cond.methodLink RJ0 492 yJ0_isLatin1_aae02 ∈ lw_tbl := (List.mem_of_getElem? (i := 1161) (by decide +kernel))
theorem lJ0_492 : zLk RJ0 492 yJ0_isLatin1_aae02 := .inl kJ0_492
theorem kJ0_495 : Cond.methodLink RJ0 495 yJ1_charAt_3b067 ∈ lw_tbl := (List.mem_of_getElem? (i := 1165) (by decide +kernel))
theorem lJ0_495 : zLk RJ0 495 yJ1_charAt_3b067 := .inl kJ0_495
theorem kJ1_9 : Cond.methodLink RJ1 9 yJ0_checkIndex_df160 ∈ lw_tbl := (List.mem_of_getElem? (i := 1168) (by decide +kernel))
theorem lJ1_9 : zLk RJ1 9 yJ0_checkIndex_df160 := .inl kJ1_9
theorem kJ0_498 : Cond.methodLink RJ0 498 yJ2_charAt_3b067 ∈ lw_tbl := (List.mem_of_getElem? (i := 1169) (by decide +kernel))
theorem lJ0_498 : zLk RJ0 498 yJ2_charAt_3b067 := .inl kJ0_498
theorem kJ0_541 : Cond.methodLink RJ0 541 yJ1_equals_b5fdf ∈ lw_tbl := (List.mem_of_getElem? (i := 1391) (by decide +kernel))
theorem lJ0_541 : zLk RJ0 541 yJ1_equals_b5fdf := .inl kJ0_541
theorem kJ4_7 : Cond.methodLink RJ4 7 yJ5_init_a7421 ∈ lw_tbl := (List.mem_of_getElem? (i := 1425) (by decide +kernel))
theorem lJ4_7 : zLk RJ4 7 yJ5_init_a7421 := .inl kJ4_7
theorem kJ5_43 : Cond.methodLink RJ5 43 yJ5_append_cf1ce ∈ lw_tbl := (List.mem_of_getElem? (i := 1429) (by decide +kernel))
theorem lJ5_43 : zLk RJ5 43 yJ5_append_cf1ce := .inl kJ5_43
theorem kJ4_23 : Cond.methodLink RJ4 23 yJ4_append_15ec4 ∈ lw_tbl := (List.mem_of_getElem? (i := 1432) (by decide +kernel))
theorem lJ4_23 : zLk RJ4 23 yJ4_append_15ec4 := .inl kJ4_23
theorem fJ5_15 : zFld RJ5 15 1 0 := ⟨zck1, by decide, .inl (List.mem_of_getElem? (i := 252) (by decide +kernel))⟩
theorem fJ5_22 : zFld RJ5 22 1 1 := ⟨zck1, by decide, .inl (List.mem_of_getElem? (i := 253) (by decide +kernel))⟩
theorem fJ5_73 : zFld RJ5 73 1 2 := ⟨zck1, by decide, .inl (List.mem_of_getElem? (i := 254) (by decide +kernel))⟩
theorem fJ0_1048 : zFld RJ0 1048 1 2 := ⟨zck1, by decide, .inl (List.mem_of_getElem? (i := 255) (by decide +kernel))⟩
theorem fJ5_79 : zFld RJ5 79 1 3 := ⟨zck1, by decide, .inl (List.mem_of_getElem? (i := 256) (by decide +kernel))⟩
theorem fJ0_9 : zFld RJ0 9 0 0 := ⟨zck0, by decide, .inl (List.mem_of_getElem? (i := 1009) (by decide +kernel))⟩
theorem fJ0_15 : zFld RJ0 15 0 1 := ⟨zck0, by decide, .inl (List.mem_of_getElem? (i := 1010) (by decide +kernel))⟩
