/-! the output: characters and numbers put at its end -/
/-- a character at the end -/
def zPutc (S : zS) (c : Nat) : zS := zU (zU (zSbR S (S 10 3 + 1)) 10 3 (S 10 3 + 1)) 11 (S 10 3) c
/-- the digits of a small number, before an index -/
def zDgs (S : zS) (k x : Nat) : zS := if x ≤ 9 then zU S 11 (k - 1) (48 + x % 10) else zU (zU S 11 (k - 1) (48 + x % 10)) 11 (k - 1 - 1) (48 + x / 10)
def zSz (x : Nat) : Nat := if x ≤ 9 then 1 else 2
/-- a small number at the end -/
def zPuti (S : zS) (x : Nat) : zS := zU (zDgs (zSbR S (S 10 3 + zSz x)) (S 10 3 + zSz x) x) 10 3 (S 10 3 + zSz x)
theorem zSz_le {x : Nat} : 1 ≤ zSz x ∧ zSz x ≤ 2 := by unfold zSz; split <;> omega
theorem zNg0 : ∀ x : Fin 12, -(nI x.val) = nI (4294967296 - x.val) ∧ -(nI (4294967296 - x.val)) = nI x.val ∧ nI 4294967196 < nI (4294967296 - x.val) ∧ (nI 4294967287 ≤ nI (4294967296 - x.val) ↔ x.val ≤ 9) ∧ (nI (4294967296 - x.val) ≤ nI 4294967286 ↔ ¬ x.val ≤ 9) ∧ ¬ nI (4294967296 - x.val) ≤ nI (10 * 4294967286) := by decide +kernel
theorem zNg {x : Nat} (h : x < 12) : -(nI x) = nI (4294967296 - x) ∧ -(nI (4294967296 - x)) = nI x ∧ nI 4294967196 < nI (4294967296 - x) ∧ (nI 4294967287 ≤ nI (4294967296 - x) ↔ x ≤ 9) ∧ (nI (4294967296 - x) ≤ nI 4294967286 ↔ ¬ x ≤ 9) ∧ ¬ nI (4294967296 - x) ≤ nI (10 * 4294967286) := zNg0 ⟨x, h⟩
theorem zPutc_sb {S : zS} {c : Nat} (B : zSB S) (h : S 10 3 + 1 ≤ 34) (hc : c < 128) : zSB (zPutc S c) := by
  have B1 := B.r h
  have h1 := zSbR_c B h
  unfold zPutc
  refine ⟨?_, ?_, ?_, fun i => ?_⟩
  · rw [zU_o (by decide), zU_j (by decide)]; exact B1.1
  · rw [zU_o (by decide), zU_j (by decide)]; exact B1.2.1
  · rw [zU_o (by decide), zU_s, zU_o (by decide), zU_j (by decide)]; exact h1.1
  · by_cases e : i = S 10 3
    · rw [e, zU_s]; exact hc
    · rw [zU_j e, zU_o (by decide)]; exact B1.2.2.2 i
theorem zDgs_o {S : zS} {k x a b : Nat} (h : a ≠ 11) : zDgs S k x a b = S a b := by
  unfold zDgs; split
  · exact zU_o h
  · rw [zU_o h, zU_o h]
theorem zPuti_sb {S : zS} {x : Nat} (B : zSB S) (hx : x < 12) (h : S 10 3 + 2 ≤ 34) : zSB (zPuti S x) := by
  have hz := zSz_le (x := x)
  have B1 := B.r (m := S 10 3 + zSz x) (by omega)
  have h1 := zSbR_c B (m := S 10 3 + zSz x) (by omega)
  unfold zPuti
  refine ⟨?_, ?_, ?_, fun i => ?_⟩
  · rw [zU_j (by decide), zDgs_o (a := 10) (by decide)]; exact B1.1
  · rw [zU_j (by decide), zDgs_o (a := 10) (by decide)]; exact B1.2.1
  · rw [zU_s, zU_j (by decide), zDgs_o (a := 10) (by decide)]; exact h1.1
  · rw [zU_o (by decide)]
    unfold zDgs
    have hb := B1.2.2.2
    split
    · by_cases e : i = S 10 3 + zSz x - 1
      · rw [e, zU_s]; omega
      · rw [zU_j e]; exact hb i
    · by_cases e : i = S 10 3 + zSz x - 1 - 1
      · rw [e, zU_s]; omega
      · rw [zU_j e]
        by_cases e : i = S 10 3 + zSz x - 1
        · rw [e, zU_s]; omega
        · rw [zU_j e]; exact hb i

set_option maxRecDepth 100000 in
set_option maxHeartbeats 4000000 in
theorem c_J5_appendC {l : Launch} (hl : l.stackTraces = false) {G : zG} {S : zS} {J : Int64} {E : UInt64} (hG : G.2.2.1 298 ≠ 1) (B : zSB S) (hm : S 10 3 + 1 ≤ 34) {c : Nat} (hc : c < 128) : nCR l G mJ5_append_3fe6f 4 1 34 [.ref 10, zi c] S J E (some (.ref 10)) (zPutc S c) J E := by
  have B1 := B.r hm
  have h1 := zSbR_c B hm
  have h3 : zSbR S (S 10 3 + 1) 10 3 = S 10 3 := zSbR_o (by decide) (by decide)
  refine nCR.of hl (by decide) rfl (Nat.le_of_ble_eq_true rfl) (ls := [some (.ref 10), some (zi c)]) rfl (fun X C hF hX => ?_)
  subst hX
  refine sw_aload_0 C dJ5_append_3fe6f_0 ?_
  refine sw_aload_0 C dJ5_append_3fe6f_1 ?_
  refine sn_getI C fJ5_79 rfl (by decide) rfl dJ5_append_3fe6f_2 ?_
  refine sn_iconst C 1 (by decide) dJ5_append_3fe6f_5 ?_
  refine sn_iadd C dJ5_append_3fe6f_6 ?_
  refine sn_pr1v C pJ5_ensureCapacityInternal_d00df kJ5_100 dJ5_append_3fe6f_7 (Nat.le_of_ble_eq_true rfl) (c_J5_ensure hl hG B hm) (by decide) (by decide) (by decide) ?_
  refine sw_aload_0 C dJ5_append_3fe6f_10 ?_
  refine sn_uu0r C uJ5_isLatin1_aae02 wSbIL kJ5_83 dJ5_append_3fe6f_11 (Nat.le_of_ble_eq_true rfl) (c_J5_isLatin1 hl B1.1) (by decide) (by decide) (by decide) ?_
  refine sn_if_eq C 45 (by decide) dJ5_append_3fe6f_14 (by decide) (fun c14 => ?_) (fun c14 => ?_)
  · exact absurd c14 (by decide)
  · refine sw_iload_1 C dJ5_append_3fe6f_17 ?_
    refine sn_cS1r C vJ1_canEncode_fc78d lJ5_191 dJ5_append_3fe6f_18 (Nat.le_of_ble_eq_true rfl) (c_J1_canEncode hl hc) (by decide) (by decide) (by decide) ?_
    refine sn_if_eq C 45 (by decide) dJ5_append_3fe6f_21 (by decide) (fun c21 => ?_) (fun c21 => ?_)
    · exact absurd c21 (by decide)
    · have ho : zOutL [some (.ref 10), some (zi c)] := zOutL.ref (by decide) (by decide) (zOutL.int zOutL.nil)
      refine sn_open ho zOuts.nil (fun va => ?_)
      have C1 := C.w (va := va)
      have hG1 : (zGw G va).2.2.1 298 = 1 := by simp [zGw]
      refine sw_aload_0 C1 dJ5_append_3fe6f_24 ?_
      refine sw_getV C1 hG1 fJ5_15 dJ5_append_3fe6f_25 ?_
      refine sw_aload_0 C1 dJ5_append_3fe6f_28 ?_
      refine sw_dup C1 rfl dJ5_append_3fe6f_29 ?_
      refine sn_getI C1 fJ5_79 rfl (by decide) rfl dJ5_append_3fe6f_30 ?_
      rw [h3]
      refine sw_dup_x1 C1 rfl rfl dJ5_append_3fe6f_33 ?_
      refine sn_iconst C1 1 (by decide) dJ5_append_3fe6f_34 ?_
      refine sn_iadd C1 dJ5_append_3fe6f_35 ?_
      refine sn_putI C1 fJ5_79 rfl (by decide) rfl rfl dJ5_append_3fe6f_36 ?_
      refine sw_iload_1 C1 dJ5_append_3fe6f_39 ?_
      refine sn_i2b C1 hc dJ5_append_3fe6f_40 ?_
      refine sn_bastV C1 hG1 (zU_j (by decide)) (by omega) (by omega) hc dJ5_append_3fe6f_41 ?_
      refine sw_goto C1 75 dJ5_append_3fe6f_42 (by decide) ?_
      refine sn_close hG ho zOuts.nil ?_
      refine sw_aload_0 C dJ5_append_3fe6f_75 ?_
      exact sw_aret C rfl rfl hF dJ5_append_3fe6f_76 (by decide) (by decide) rfl rfl rfl

set_option maxRecDepth 100000 in
set_option maxHeartbeats 4000000 in
theorem c_J6_stringSize {l : Launch} (hl : l.stackTraces = false) {G : zG} {S : zS} {J : Int64} {E : UInt64} {x : Nat} (hx : x < 12) : nCR l G mJ6_stringSize_0f7a4 0 0 0 [zi x] S J E (some (zi (zSz x))) S J E := by
  obtain ⟨n1, n2, n3, n4, n5, n6⟩ := zNg hx
  refine nCR.of hl (by decide) rfl (Nat.le_of_ble_eq_true rfl) (ls := [some (zi x), none, none, none]) rfl (fun X C hF hX => ?_)
  subst hX
  refine sn_iconst C 1 (by decide) dJ6_stringSize_0f7a4_0 ?_
  refine sw_istore_1 C rfl dJ6_stringSize_0f7a4_1 ?_
  refine sw_iload_0 C dJ6_stringSize_0f7a4_2 ?_
  refine sn_if_lt C 11 (by omega) dJ6_stringSize_0f7a4_3 (by decide) (fun c3 => ?_) (fun c3 => ?_)
  · omega
  · refine sn_iconst C 0 (by decide) dJ6_stringSize_0f7a4_6 ?_
    refine sw_istore_1 C rfl dJ6_stringSize_0f7a4_7 ?_
    refine sw_iload_0 C dJ6_stringSize_0f7a4_8 ?_
    refine sn_ineg2 C n1 dJ6_stringSize_0f7a4_9 ?_
    refine sw_istore_0 C dJ6_stringSize_0f7a4_10 ?_
    refine sn_bipush C 4294967286 (by decide) dJ6_stringSize_0f7a4_11 ?_
    refine sw_istore_2 C rfl dJ6_stringSize_0f7a4_13 ?_
    refine sn_iconst C 1 (by decide) dJ6_stringSize_0f7a4_14 ?_
    refine sw_istore_3 C rfl dJ6_stringSize_0f7a4_15 ?_
    refine sw_iload_3 C dJ6_stringSize_0f7a4_16 ?_
    refine sn_bipush C 10 (by decide) dJ6_stringSize_0f7a4_17 ?_
    refine sn_icmp_ge C 42 (by omega) (by omega) dJ6_stringSize_0f7a4_19 (by decide) (fun c19 => ?_) (fun c19 => ?_)
    · omega
    · refine sw_iload_0 C dJ6_stringSize_0f7a4_22 ?_
      refine sw_iload_2 C dJ6_stringSize_0f7a4_23 ?_
      refine sw_icmp_le C 31 dJ6_stringSize_0f7a4_24 (by decide) (fun c24 => ?_) (fun c24 => ?_)
      · have hx9 := n5.mp c24
        refine sn_bipush C 10 (by decide) dJ6_stringSize_0f7a4_31 ?_
        refine sw_iload_2 C dJ6_stringSize_0f7a4_33 ?_
        refine sn_imul C dJ6_stringSize_0f7a4_34 ?_
        refine sw_istore_2 C rfl dJ6_stringSize_0f7a4_35 ?_
        refine sn_iinc_3 C rfl dJ6_stringSize_0f7a4_36 ?_
        refine sw_goto C 16 dJ6_stringSize_0f7a4_39 (by decide) ?_
        refine sw_iload_3 C dJ6_stringSize_0f7a4_16 ?_
        refine sn_bipush C 10 (by decide) dJ6_stringSize_0f7a4_17 ?_
        refine sn_icmp_ge C 42 (by decide) (by decide) dJ6_stringSize_0f7a4_19 (by decide) (fun c19 => ?_) (fun c19 => ?_)
        · exact absurd c19 (by decide)
        · refine sw_iload_0 C dJ6_stringSize_0f7a4_22 ?_
          refine sw_iload_2 C dJ6_stringSize_0f7a4_23 ?_
          refine sw_icmp_le C 31 dJ6_stringSize_0f7a4_24 (by decide) (fun c24 => ?_) (fun c24 => ?_)
          · exact absurd c24 n6
          · refine sw_iload_3 C dJ6_stringSize_0f7a4_27 ?_
            refine sw_iload_1 C dJ6_stringSize_0f7a4_28 ?_
            refine sn_iadd C dJ6_stringSize_0f7a4_29 ?_
            exact sn_iret C rfl hF dJ6_stringSize_0f7a4_30 (by decide) (by decide) (by unfold zSz; rw [if_neg hx9]) rfl rfl rfl
      · have hx9 : x ≤ 9 := Classical.byContradiction (fun h => c24 (n5.mpr h))
        refine sw_iload_3 C dJ6_stringSize_0f7a4_27 ?_
        refine sw_iload_1 C dJ6_stringSize_0f7a4_28 ?_
        refine sn_iadd C dJ6_stringSize_0f7a4_29 ?_
        exact sn_iret C rfl hF dJ6_stringSize_0f7a4_30 (by decide) (by decide) (by unfold zSz; rw [if_pos hx9]) rfl rfl rfl

set_option maxRecDepth 100000 in
set_option maxHeartbeats 4000000 in
theorem c_J6_getChars {l : Launch} (hl : l.stackTraces = false) {G : zG} {S : zS} {J : Int64} {E : UInt64} (hG : G.2.2.1 298 = 1) {x k : Nat} (hx : x < 12) (hk : zSz x ≤ k) (hkc : k ≤ S 10 99) (hcap : S 10 99 ≤ 34) : nCR l G mJ6_getChars_ba4f3 0 0 0 [zi x, zi k, .ref 11] S J E (some (zi (k - zSz x))) (zDgs S k x) J E := by
  obtain ⟨n1, n2, n3, n4, n5, n6⟩ := zNg hx
  have hz := zSz_le (x := x)
  refine nCR.of hl (by decide) rfl (Nat.le_of_ble_eq_true rfl) (ls := [some (zi x), some (zi k), some (.ref 11), none, none, none, none]) rfl (fun X C hF hX => ?_)
  subst hX
  refine sw_iload_1 C dJ6_getChars_ba4f3_0 ?_
  refine sw_istore_5 C rfl dJ6_getChars_ba4f3_1 ?_
  refine sw_iload_0 C dJ6_getChars_ba4f3_3 ?_
  refine sn_if_ge C 11 (by omega) dJ6_getChars_ba4f3_4 (by decide) (fun c4 => ?_) (fun c4 => ?_)
  · refine sn_iconst C 0 (by decide) dJ6_getChars_ba4f3_11 ?_
    refine sw_istore_6 C rfl dJ6_getChars_ba4f3_12 ?_
    refine sw_iload_6 C dJ6_getChars_ba4f3_14 ?_
    refine sn_if_ne C 22 (by omega) dJ6_getChars_ba4f3_16 (by decide) (fun c16 => ?_) (fun c16 => ?_)
    · exact absurd rfl c16
    · refine sw_iload_0 C dJ6_getChars_ba4f3_19 ?_
      refine sn_ineg2 C n1 dJ6_getChars_ba4f3_20 ?_
      refine sw_istore_0 C dJ6_getChars_ba4f3_21 ?_
      refine sw_iload_0 C dJ6_getChars_ba4f3_22 ?_
      refine sn_bipush C 4294967196 (by decide) dJ6_getChars_ba4f3_23 ?_
      refine sw_icmp_gt C 72 dJ6_getChars_ba4f3_25 (by decide) (fun c25 => ?_) (fun c25 => ?_)
      · refine sw_aload_2 C dJ6_getChars_ba4f3_72 ?_
        refine sn_idec_5 C rfl (by omega) dJ6_getChars_ba4f3_73 ?_
        refine sw_iload_5 C dJ6_getChars_ba4f3_76 ?_
        refine sw_getD C (Or.inl ⟨rfl, rfl⟩) wSbOnes dJ6_getChars_ba4f3_78 ?_
        refine sw_iload_0 C dJ6_getChars_ba4f3_81 ?_
        refine sn_ineg2 C n2 dJ6_getChars_ba4f3_82 ?_
        refine sw_digB C (Or.inl ⟨rfl, rfl⟩) (by omega) dJ6_getChars_ba4f3_83 ?_
        refine sn_bastV C hG rfl (by omega) (by omega) (by omega) dJ6_getChars_ba4f3_84 ?_
        refine sw_iload_0 C dJ6_getChars_ba4f3_85 ?_
        refine sn_bipush C 4294967287 (by decide) dJ6_getChars_ba4f3_86 ?_
        refine sw_icmp_ge C 104 dJ6_getChars_ba4f3_88 (by decide) (fun c88 => ?_) (fun c88 => ?_)
        · have h9 := n4.mp c88
          refine sw_iload_6 C dJ6_getChars_ba4f3_104 ?_
          refine sn_if_eq C 118 (by omega) dJ6_getChars_ba4f3_106 (by decide) (fun c106 => ?_) (fun c106 => ?_)
          · refine sw_iload_5 C dJ6_getChars_ba4f3_118 ?_
            exact sn_iret C rfl hF dJ6_getChars_ba4f3_120 (by decide) (by decide) (by unfold zSz; simp only [h9, if_true, if_false] <;> omega) (by unfold zDgs; simp only [h9, if_true, if_false]) rfl rfl
          · omega
        · have h9 : ¬ x ≤ 9 := fun h => c88 (n4.mpr h)
          have hz2 : zSz x = 2 := by unfold zSz; rw [if_neg h9]
          refine sw_aload_2 C dJ6_getChars_ba4f3_91 ?_
          refine sn_idec_5 C rfl (by omega) dJ6_getChars_ba4f3_92 ?_
          refine sw_iload_5 C dJ6_getChars_ba4f3_95 ?_
          refine sw_getD C (Or.inr ⟨rfl, rfl⟩) wSbTens dJ6_getChars_ba4f3_97 ?_
          refine sw_iload_0 C dJ6_getChars_ba4f3_100 ?_
          refine sn_ineg2 C n2 dJ6_getChars_ba4f3_101 ?_
          refine sw_digB C (Or.inr ⟨rfl, rfl⟩) (by omega) dJ6_getChars_ba4f3_102 ?_
          refine sn_bastV C hG (zU_o (by decide)) (by omega) (by omega) (by omega) dJ6_getChars_ba4f3_103 ?_
          refine sw_iload_6 C dJ6_getChars_ba4f3_104 ?_
          refine sn_if_eq C 118 (by omega) dJ6_getChars_ba4f3_106 (by decide) (fun c106 => ?_) (fun c106 => ?_)
          · refine sw_iload_5 C dJ6_getChars_ba4f3_118 ?_
            exact sn_iret C rfl hF dJ6_getChars_ba4f3_120 (by decide) (by decide) (by unfold zSz; simp only [h9, if_true, if_false] <;> omega) (by unfold zDgs; simp only [h9, if_true, if_false]) rfl rfl
          · omega
      · exact absurd n3 c25
  · omega

set_option maxRecDepth 100000 in
set_option maxHeartbeats 4000000 in
theorem c_J5_appendI {l : Launch} (hl : l.stackTraces = false) {G : zG} {S : zS} {J : Int64} {E : UInt64} (hG : G.2.2.1 298 ≠ 1) (B : zSB S) (hm : S 10 3 + 2 ≤ 34) {x : Nat} (hx : x < 12) : nCR l G mJ5_append_c97b9 4 1 34 [.ref 10, zi x] S J E (some (.ref 10)) (zPuti S x) J E := by
  have hz := zSz_le (x := x)
  have hm1 : S 10 3 + zSz x ≤ 34 := by omega
  have B1 := B.r hm1
  have h1 := zSbR_c B hm1
  refine nCR.of hl (by decide) rfl (Nat.le_of_ble_eq_true rfl) (ls := [some (.ref 10), some (zi x), none, none]) rfl (fun X C hF hX => ?_)
  subst hX
  refine sw_aload_0 C dJ5_append_c97b9_0 ?_
  refine sn_getI C fJ5_79 rfl (by decide) rfl dJ5_append_c97b9_1 ?_
  refine sw_istore_2 C rfl dJ5_append_c97b9_4 ?_
  refine sw_iload_2 C dJ5_append_c97b9_5 ?_
  refine sw_iload_1 C dJ5_append_c97b9_6 ?_
  refine sn_cS1r C vJ6_stringSize_0f7a4 lJ5_245 dJ5_append_c97b9_7 (Nat.le_of_ble_eq_true rfl) (c_J6_stringSize hl hx) (by decide) (by decide) (by decide) ?_
  refine sn_iadd C dJ5_append_c97b9_10 ?_
  refine sw_istore_3 C rfl dJ5_append_c97b9_11 ?_
  refine sw_aload_0 C dJ5_append_c97b9_12 ?_
  refine sw_iload_3 C dJ5_append_c97b9_13 ?_
  refine sn_pr1v C pJ5_ensureCapacityInternal_d00df kJ5_100 dJ5_append_c97b9_14 (Nat.le_of_ble_eq_true rfl) (c_J5_ensure hl hG B hm1) (by decide) (by decide) (by decide) ?_
  refine sw_aload_0 C dJ5_append_c97b9_17 ?_
  refine sn_uu0r C uJ5_isLatin1_aae02 wSbIL kJ5_83 dJ5_append_c97b9_18 (Nat.le_of_ble_eq_true rfl) (c_J5_isLatin1 hl B1.1) (by decide) (by decide) (by decide) ?_
  refine sn_if_eq C 37 (by decide) dJ5_append_c97b9_21 (by decide) (fun c21 => ?_) (fun c21 => ?_)
  · exact absurd c21 (by decide)
  · have ho : ∀ p q, zOutL [some (.ref 10), some (zi x), some (zi p), some (zi q)] := fun p q => zOutL.ref (by decide) (by decide) (zOutL.int (zOutL.int (zOutL.int zOutL.nil)))
    refine sn_open (ho _ _) zOuts.nil (fun va => ?_)
    have C1 := C.w (va := va)
    have hG1 : (zGw G va).2.2.1 298 = 1 := by simp [zGw]
    refine sw_iload_1 C1 dJ5_append_c97b9_24 ?_
    refine sw_iload_3 C1 dJ5_append_c97b9_25 ?_
    refine sw_aload_0 C1 dJ5_append_c97b9_26 ?_
    refine sw_getV C1 hG1 fJ5_15 dJ5_append_c97b9_27 ?_
    refine sn_cS3r C1 vJ6_getChars_ba4f3 lJ5_248 dJ5_append_c97b9_30 (Nat.le_of_ble_eq_true rfl) (c_J6_getChars hl hG1 hx (by omega) h1.1 (by omega)) (by decide) (by decide) (by decide) ?_
    refine sw_pop C1 rfl dJ5_append_c97b9_33 ?_
    refine sw_goto C1 48 dJ5_append_c97b9_34 (by decide) ?_
    refine sn_close hG (ho _ _) zOuts.nil ?_
    refine sw_aload_0 C dJ5_append_c97b9_48 ?_
    refine sw_iload_3 C dJ5_append_c97b9_49 ?_
    refine sn_putI C fJ5_79 rfl (by decide) rfl rfl dJ5_append_c97b9_50 ?_
    refine sw_aload_0 C dJ5_append_c97b9_53 ?_
    exact sw_aret C rfl rfl hF dJ5_append_c97b9_54 (by decide) (by decide) rfl rfl rfl

set_option maxRecDepth 100000 in
set_option maxHeartbeats 4000000 in
theorem c_J4_appendC {l : Launch} (hl : l.stackTraces = false) {G : zG} {S : zS} {J : Int64} {E : UInt64} (hG : G.2.2.1 298 ≠ 1) (B : zSB S) (hm : S 10 3 + 1 ≤ 34) {c : Nat} (hc : c < 128) : nCR l G mJ4_append_cf468 5 1 34 [.ref 10, zi c] S J E (some (.ref 10)) (zPutc S c) J E := by
  refine nCR.of hl (by decide) rfl (Nat.le_of_ble_eq_true rfl) (ls := [some (.ref 10), some (zi c)]) rfl (fun X C hF hX => ?_)
  subst hX
  refine sw_aload_0 C dJ4_append_cf468_0 ?_
  refine sw_iload_1 C dJ4_append_cf468_1 ?_
  refine sn_su1r C rfl uJ5_append_3fe6f kJ4_50 dJ4_append_cf468_2 (Nat.le_of_ble_eq_true rfl) (c_J5_appendC hl hG B hm hc) (by decide) (by decide) (by decide) ?_
  refine sw_pop C rfl dJ4_append_cf468_5 ?_
  refine sw_aload_0 C dJ4_append_cf468_6 ?_
  exact sw_aret C rfl rfl hF dJ4_append_cf468_7 (by decide) (by decide) rfl rfl rfl

set_option maxRecDepth 100000 in
set_option maxHeartbeats 4000000 in
theorem c_J4_appendI {l : Launch} (hl : l.stackTraces = false) {G : zG} {S : zS} {J : Int64} {E : UInt64} (hG : G.2.2.1 298 ≠ 1) (B : zSB S) (hm : S 10 3 + 2 ≤ 34) {x : Nat} (hc : x < 12) : nCR l G mJ4_append_bf812 5 1 34 [.ref 10, zi x] S J E (some (.ref 10)) (zPuti S x) J E := by
  refine nCR.of hl (by decide) rfl (Nat.le_of_ble_eq_true rfl) (ls := [some (.ref 10), some (zi x)]) rfl (fun X C hF hX => ?_)
  subst hX
  refine sw_aload_0 C dJ4_append_bf812_0 ?_
  refine sw_iload_1 C dJ4_append_bf812_1 ?_
  refine sn_su1r C rfl uJ5_append_c97b9 kJ4_53 dJ4_append_bf812_2 (Nat.le_of_ble_eq_true rfl) (c_J5_appendI hl hG B hm hc) (by decide) (by decide) (by decide) ?_
  refine sw_pop C rfl dJ4_append_bf812_5 ?_
  refine sw_aload_0 C dJ4_append_bf812_6 ?_
  exact sw_aret C rfl rfl hF dJ4_append_bf812_7 (by decide) (by decide) rfl rfl rfl

/-- the output emptied -/
def zEmp (S : zS) : zS := zU (if S 10 3 = 0 then S else zU S 10 2 1) 10 3 0
theorem zEmp_sb {S : zS} (B : zSB S) : zSB (zEmp S) := by
  unfold zEmp
  refine ⟨?_, ?_, ?_, fun i => ?_⟩
  · rw [zU_j (by decide)]; split
    · exact B.1
    · rw [zU_j (by decide)]; exact B.1
  · rw [zU_j (by decide)]; split
    · exact B.2.1
    · rw [zU_j (by decide)]; exact B.2.1
  · rw [zU_s]; exact Nat.zero_le _
  · rw [zU_o (by decide)]; split
    · exact B.2.2.2 i
    · rw [zU_o (by decide)]; exact B.2.2.2 i

set_option maxRecDepth 100000 in
set_option maxHeartbeats 4000000 in
theorem c_J5_setLength {l : Launch} (hl : l.stackTraces = false) {G : zG} {S : zS} {J : Int64} {E : UInt64} (hG : G.2.2.1 298 ≠ 1) (B : zSB S) : nCR l G mJ5_setLength_d00df 4 1 34 [.ref 10, zi 0] S J E none (zEmp S) J E := by
  have hc : S 10 3 ≤ 34 := by have := B.2.1; have := B.2.2.1; omega
  have e0 : zSbR S 0 = S := by unfold zSbR; rw [if_neg (by omega)]
  refine nCR.of hl (by decide) rfl (Nat.le_of_ble_eq_true rfl) (ls := [some (.ref 10), some (zi 0)]) rfl (fun X C hF hX => ?_)
  subst hX
  refine sw_iload_1 C dJ5_setLength_d00df_0 ?_
  refine sn_if_ge C 13 (by omega) dJ5_setLength_d00df_1 (by decide) (fun c1 => ?_) (fun c1 => ?_)
  · refine sw_aload_0 C dJ5_setLength_d00df_13 ?_
    refine sw_iload_1 C dJ5_setLength_d00df_14 ?_
    refine sn_pr1v C pJ5_ensureCapacityInternal_d00df kJ5_100 dJ5_setLength_d00df_15 (Nat.le_of_ble_eq_true rfl) (c_J5_ensure hl hG B (by omega)) (by decide) (by decide) (by decide) ?_
    rw [e0]
    refine sw_aload_0 C dJ5_setLength_d00df_18 ?_
    refine sn_getI C fJ5_79 rfl (by decide) rfl dJ5_setLength_d00df_19 ?_
    refine sw_iload_1 C dJ5_setLength_d00df_22 ?_
    refine sn_icmp_ge C 63 (by omega) (by omega) dJ5_setLength_d00df_23 (by decide) (fun c23 => ?_) (fun c23 => ?_)
    · refine sw_aload_0 C dJ5_setLength_d00df_63 ?_
      refine sn_getI C fJ5_79 rfl (by decide) rfl dJ5_setLength_d00df_64 ?_
      refine sw_iload_1 C dJ5_setLength_d00df_67 ?_
      refine sn_icmp_le C 76 (by omega) (by omega) dJ5_setLength_d00df_68 (by decide) (fun c68 => ?_) (fun c68 => ?_)
      · refine sw_aload_0 C dJ5_setLength_d00df_76 ?_
        refine sw_iload_1 C dJ5_setLength_d00df_77 ?_
        refine sn_putI C fJ5_79 rfl (by decide) rfl rfl dJ5_setLength_d00df_78 ?_
        exact sn_vret C rfl hF dJ5_setLength_d00df_81 (by decide) (by decide) (by unfold zEmp; rw [if_pos (by omega)]) rfl rfl
      · refine sw_aload_0 C dJ5_setLength_d00df_71 ?_
        refine sn_iconst C 1 (by decide) dJ5_setLength_d00df_72 ?_
        refine sn_putZ C (x := true) fJ5_73 rfl (by decide) rfl rfl dJ5_setLength_d00df_73 ?_
        refine sw_aload_0 C dJ5_setLength_d00df_76 ?_
        refine sw_iload_1 C dJ5_setLength_d00df_77 ?_
        refine sn_putI C fJ5_79 rfl (by decide) rfl rfl dJ5_setLength_d00df_78 ?_
        exact sn_vret C rfl hF dJ5_setLength_d00df_81 (by decide) (by decide) (by unfold zEmp; rw [if_neg (by omega)]; rfl) rfl rfl
    · omega
  · omega

set_option maxRecDepth 100000 in
set_option maxHeartbeats 4000000 in
theorem c_J4_setLength {l : Launch} (hl : l.stackTraces = false) {G : zG} {S : zS} {J : Int64} {E : UInt64} (hG : G.2.2.1 298 ≠ 1) (B : zSB S) : nCR l G mJ4_setLength_d00df 5 1 34 [.ref 10, zi 0] S J E none (zEmp S) J E := by
  refine nCR.of hl (by decide) rfl (Nat.le_of_ble_eq_true rfl) (ls := [some (.ref 10), some (zi 0)]) rfl (fun X C hF hX => ?_)
  subst hX
  refine sw_aload_0 C dJ4_setLength_d00df_0 ?_
  refine sw_iload_1 C dJ4_setLength_d00df_1 ?_
  refine sn_su1v C rfl uJ5_setLength_d00df kJ4_333 dJ4_setLength_d00df_2 (Nat.le_of_ble_eq_true rfl) (c_J5_setLength hl hG B) (by decide) (by decide) (by decide) ?_
  exact sn_vret C rfl hF dJ4_setLength_d00df_5 (by decide) (by decide) rfl rfl rfl

set_option maxRecDepth 100000 in
set_option maxHeartbeats 4000000 in
theorem c_J5_charAt {l : Launch} (hl : l.stackTraces = false) {G : zG} {S : zS} {J : Int64} {E : UInt64} (hG : G.2.2.1 298 ≠ 1) (B : zSB S) {i : Nat} (hi : i < S 10 3) : nCR l G mJ5_charAt_5068e 2 0 0 [.ref 10, zi i] S J E (some (zi (S 11 i))) S J E := by
  obtain ⟨hco, hcap, hcnt, hby⟩ := id B
  have hb := hby i
  refine nCR.of hl (by decide) rfl (Nat.le_of_ble_eq_true rfl) (ls := [some (.ref 10), some (zi i), none, none, none]) rfl (fun X C hF hX => ?_)
  subst hX
  refine sw_aload_0 C dJ5_charAt_5068e_0 ?_
  refine sn_getI C fJ5_22 rfl (by decide) rfl dJ5_charAt_5068e_1 ?_
  rw [hco]
  refine sw_istore_2 C rfl dJ5_charAt_5068e_4 ?_
  refine sn_open (zOutL.ref (by decide) (by decide) (zOutL.int (zOutL.int (zOutL.none (zOutL.none zOutL.nil))))) zOuts.nil (fun va => ?_)
  have C1 := C.w (va := va)
  have hG1 : (zGw G va).2.2.1 298 = 1 := by simp [zGw]
  refine sw_aload_0 C1 dJ5_charAt_5068e_5 ?_
  refine sw_getV C1 hG1 fJ5_15 dJ5_charAt_5068e_6 ?_
  refine sw_astore_3 C1 rfl dJ5_charAt_5068e_9 ?_
  refine sw_aload_0 C1 dJ5_charAt_5068e_10 ?_
  refine sn_getI C1 fJ5_79 rfl (by decide) rfl dJ5_charAt_5068e_11 ?_
  refine sw_aload_3 C1 dJ5_charAt_5068e_14 ?_
  refine sn_alenV C1 hG1 rfl (by omega) dJ5_charAt_5068e_15 ?_
  refine sw_iload_2 C1 dJ5_charAt_5068e_16 ?_
  refine sn_ishr C1 (by omega) (by omega) dJ5_charAt_5068e_17 ?_
  rw [show S 10 99 / 2 ^ 0 = S 10 99 from Nat.div_one _]
  refine sn_min C1 kJ5_138 (by omega) (by omega) (by decide) (by decide) (by decide) dJ5_charAt_5068e_18 ?_
  rw [show min (S 10 3) (S 10 99) = S 10 3 from Nat.min_eq_left hcnt]
  refine sw_istore_4 C1 rfl dJ5_charAt_5068e_21 ?_
  refine sw_iload_1 C1 dJ5_charAt_5068e_23 ?_
  refine sw_iload_4 C1 dJ5_charAt_5068e_24 ?_
  refine sn_cS2v C1 vJ0_checkIndex_df160 lJ5_144 dJ5_charAt_5068e_26 (Nat.le_of_ble_eq_true rfl) (c_J0_checkIndex_df160 hl hi (by omega)) (by decide) (by decide) (by decide) ?_
  refine sw_iload_2 C1 dJ5_charAt_5068e_29 ?_
  refine sn_if_ne C1 42 (by omega) dJ5_charAt_5068e_30 (by decide) (fun c30 => ?_) (fun c30 => ?_)
  · exact absurd rfl c30
  · refine sw_aload_3 C1 dJ5_charAt_5068e_33 ?_
    refine sw_iload_1 C1 dJ5_charAt_5068e_34 ?_
    refine sn_baldV C1 hG1 rfl (by omega) (by omega) dJ5_charAt_5068e_35 ?_
    refine sn_sipush C1 255 (by decide) dJ5_charAt_5068e_36 ?_
    refine sn_iand C1 dJ5_charAt_5068e_39 ?_
    rw [show S 11 i &&& 255 = S 11 i from by rw [show (255 : Nat) = 2 ^ 8 - 1 from rfl, Nat.and_two_pow_sub_one_eq_mod, Nat.mod_eq_of_lt (by omega)]]
    refine sw_i2c C1 dJ5_charAt_5068e_40 ?_
    rw [show ((nI (S 11 i)).toUInt32 % 65536).toInt32 = nI (S 11 i) from by rw [pk_char, nI_bv, BitVec.toNat_ofNat, Nat.mod_eq_of_lt (show S 11 i < 2 ^ 32 by omega), Nat.mod_eq_of_lt (by omega)]]
    refine sw_less (zLess.keep (zLess.keep (zLess.keep (zLess.drop (zLess.keep zLess.nil))))) ?_
    refine sn_close hG (zOutL.ref (by decide) (by decide) (zOutL.int (zOutL.int (zOutL.none (zOutL.int zOutL.nil))))) (zOuts.int zOuts.nil) ?_
    exact sn_cret C (by omega) rfl hF dJ5_charAt_5068e_41 (by decide) (by decide) rfl rfl rfl rfl

set_option maxRecDepth 100000 in
set_option maxHeartbeats 4000000 in
theorem c_J4_charAt {l : Launch} (hl : l.stackTraces = false) {G : zG} {S : zS} {J : Int64} {E : UInt64} (hG : G.2.2.1 298 ≠ 1) (B : zSB S) {i : Nat} (hi : i < S 10 3) : nCR l G mJ4_charAt_5068e 3 0 0 [.ref 10, zi i] S J E (some (zi (S 11 i))) S J E := by
  have hb := B.2.2.2 i
  refine nCR.of hl (by decide) rfl (Nat.le_of_ble_eq_true rfl) (ls := [some (.ref 10), some (zi i)]) rfl (fun X C hF hX => ?_)
  subst hX
  refine sw_aload_0 C dJ4_charAt_5068e_0 ?_
  refine sw_iload_1 C dJ4_charAt_5068e_1 ?_
  refine sn_su1r C rfl uJ5_charAt_5068e kJ4_329 dJ4_charAt_5068e_2 (Nat.le_of_ble_eq_true rfl) (c_J5_charAt hl hG B hi) (by decide) (by decide) (by decide) ?_
  exact sn_cret C (by omega) rfl hF dJ4_charAt_5068e_5 (by decide) (by decide) rfl rfl rfl rfl
