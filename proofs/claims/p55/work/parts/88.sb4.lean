/-! the output: what its methods do -/
theorem wSbCS : Cond.fieldLink RJ5 18 "java/lang/String" "COMPACT_STRINGS" "Z" ∈ lw_tbl := (List.mem_of_getElem? (i := 243) (by decide +kernel))
theorem wSbMax : Cond.constant RJ5 39 (2147483647 : Int32) ∈ lw_tbl := (List.mem_of_getElem? (i := 841) (by decide +kernel))
theorem wSbSoft : Cond.constant RJ8 200 (2147483639 : Int32) ∈ lw_tbl := (List.mem_of_getElem? (i := 837) (by decide +kernel))
theorem wSbOnes : Cond.fieldLink RJ6 83 "java/lang/Integer" "DigitOnes" "[B" ∈ lw_tbl := (List.mem_of_getElem? (i := 941) (by decide +kernel))
theorem wSbTens : Cond.fieldLink RJ6 87 "java/lang/Integer" "DigitTens" "[B" ∈ lw_tbl := (List.mem_of_getElem? (i := 943) (by decide +kernel))
section ZSD
variable {G : zG} {X : zX} {M : zM} {d mc ms a b pc : Nat} {ls : List (Option Value)} {st : List Value} {S : zS} {J : Int64} {E : UInt64}
theorem sn_ldc2 (C : zOK G X M d mc ms) {idx : Nat} {v : Int32} (x : Nat) (hv : v = nI x) (hw : Cond.constant M.1.cls idx v ∈ lw_tbl) (hd : decode M.2.1 pc = .ok (.ldc idx, 2)) (k : SN G X a b (pc + 2) ls (zi x :: st) S J E) : SN G X a b pc ls st S J E := by
  obtain ⟨p, l, e, R, s, m, args, below, meth, c, Q⟩ := X
  intro H locs arr hl hn hR hS
  obtain ⟨hx, hb, hml, hown, hlk, hrt, ⟨hT, hK, -⟩, -⟩ := id C
  subst hv
  exact lv_ldc hx hb hown (hT _ hw rfl args) hd (k H locs arr hl hn hR hS)
theorem sn_ineg2 (C : zOK G X M d mc ms) {x y : Nat} (h : -(nI x) = nI y) (hd : decode M.2.1 pc = .ok (.ineg, 1)) (k : SN G X a b (pc + 1) ls (zi y :: st) S J E) : SN G X a b pc ls (zi x :: st) S J E := sw_ineg C hd (by rw [h]; exact k)
end ZSD
/-- what holds of the output -/
def zSB (S : zS) : Prop := S 10 1 = 0 ∧ (S 10 99 = 16 ∨ S 10 99 = 34) ∧ S 10 3 ≤ S 10 99 ∧ ∀ i, S 11 i < 128
/-- the output with longer bytes -/
def zGrS (S : zS) : zS := fun a b => if a = 10 ∧ b = 99 then 34 else if a = 11 then (if b < S 10 99 then S 11 b else 0) else S a b
/-- the output with room for so many -/
def zSbR (S : zS) (m : Nat) : zS := if S 10 99 < m then zGrS S else S
theorem zGr_in {S : zS} (h : S 10 99 < 2 ^ 30) : zGr (zIn S) 34 = zIn (zGrS S) := by
  funext a b
  show zGr (zIn S) 34 a b = nI (zGrS S a b)
  unfold zGr zGrS
  by_cases h1 : a = 10 ∧ b = 99
  · rw [if_pos h1, if_pos h1]
  · rw [if_neg h1, if_neg h1]
    by_cases h2 : a = 11
    · rw [if_pos h2, if_pos h2]
      unfold zLong
      rw [zCap_n rfl h]
      by_cases h3 : b < S 10 99
      · rw [if_pos h3, if_pos h3]; rfl
      · rw [if_neg h3, if_neg h3]; rfl
    · rw [if_neg h2, if_neg h2]; rfl
theorem zSbR_o {S : zS} {m a b : Nat} (h : a ≠ 11) (h2 : ¬ (a = 10 ∧ b = 99)) : zSbR S m a b = S a b := by
  unfold zSbR
  split
  · unfold zGrS; rw [if_neg h2, if_neg h]
  · rfl
theorem zSbR_b {S : zS} {m i : Nat} (h : i < S 10 99) : zSbR S m 11 i = S 11 i := by
  unfold zSbR
  split
  · unfold zGrS; rw [if_neg (by omega), if_pos rfl, if_pos h]
  · rfl
theorem zSbR_c {S : zS} {m : Nat} (B : zSB S) (hm : m ≤ 34) : m ≤ zSbR S m 10 99 ∧ S 10 99 ≤ zSbR S m 10 99 ∧ (zSbR S m 10 99 = 16 ∨ zSbR S m 10 99 = 34) := by
  obtain ⟨-, hcap, -, -⟩ := B
  unfold zSbR
  by_cases h : S 10 99 < m
  · rw [if_pos h]; unfold zGrS; rw [if_pos ⟨rfl, rfl⟩]; omega
  · rw [if_neg h]; omega
theorem zSB.r {S : zS} {m : Nat} (B : zSB S) (hm : m ≤ 34) : zSB (zSbR S m) := by
  have h := zSbR_c B hm
  obtain ⟨h0, hcap, hc, hb⟩ := B
  refine ⟨(zSbR_o (by decide) (by decide)).trans h0, h.2.2, by rw [zSbR_o (by decide) (by decide)]; omega, fun i => ?_⟩
  unfold zSbR
  split
  · unfold zGrS; rw [if_neg (by omega), if_pos rfl]; split
    · exact hb i
    · decide
  · exact hb i

set_option maxRecDepth 100000 in
set_option maxHeartbeats 4000000 in
theorem c_J5_isLatin1 {l : Launch} (hl : l.stackTraces = false) {G : zG} {S : zS} {J : Int64} {E : UInt64} (h0 : S 10 1 = 0) : nCR l G mJ5_isLatin1_aae02 0 0 0 [.ref 10] S J E (some (zi true.toNat)) S J E := by
  refine nCR.of hl (by decide) rfl (Nat.le_of_ble_eq_true rfl) (ls := [some (.ref 10)]) rfl (fun X C hF hX => ?_)
  subst hX
  refine sw_getCS C wSbCS dJ5_isLatin1_aae02_0 ?_
  change SN G X _ _ _ _ (zi 1 :: _) S J E
  refine sn_if_eq C 17 (by decide) dJ5_isLatin1_aae02_3 (by decide) (fun c3 => ?_) (fun c3 => ?_)
  · exact absurd c3 (by decide)
  · refine sw_aload_0 C dJ5_isLatin1_aae02_6 ?_
    refine sn_getI C fJ5_22 rfl (by decide) rfl dJ5_isLatin1_aae02_7 ?_
    rw [h0]
    refine sn_if_ne C 17 (by decide) dJ5_isLatin1_aae02_10 (by decide) (fun c10 => ?_) (fun c10 => ?_)
    · exact absurd rfl c10
    · refine sn_iconst C 1 (by decide) dJ5_isLatin1_aae02_13 ?_
      refine sw_goto C 18 dJ5_isLatin1_aae02_14 (by decide) ?_
      exact sn_zret C (v := true) rfl hF dJ5_isLatin1_aae02_18 (by decide) (by decide) (by rfl) rfl rfl rfl

set_option maxRecDepth 100000 in
set_option maxHeartbeats 4000000 in
theorem c_J5_length {l : Launch} (hl : l.stackTraces = false) {G : zG} {S : zS} {J : Int64} {E : UInt64} : nCR l G mJ5_length_8abf5 0 0 0 [.ref 10] S J E (some (zi (S 10 3))) S J E := by
  refine nCR.of hl (by decide) rfl (Nat.le_of_ble_eq_true rfl) (ls := [some (.ref 10)]) rfl (fun X C hF hX => ?_)
  subst hX
  refine sw_aload_0 C dJ5_length_8abf5_0 ?_
  refine sn_getI C fJ5_79 rfl (by decide) rfl dJ5_length_8abf5_1 ?_
  exact sn_iret C rfl hF dJ5_length_8abf5_4 (by decide) (by decide) rfl rfl rfl rfl

set_option maxRecDepth 100000 in
set_option maxHeartbeats 4000000 in
theorem c_J4_length {l : Launch} (hl : l.stackTraces = false) {G : zG} {S : zS} {J : Int64} {E : UInt64} : nCR l G mJ4_length_8abf5 1 0 0 [.ref 10] S J E (some (zi (S 10 3))) S J E := by
  refine nCR.of hl (by decide) rfl (Nat.le_of_ble_eq_true rfl) (ls := [some (.ref 10)]) rfl (fun X C hF hX => ?_)
  subst hX
  refine sw_aload_0 C dJ4_length_8abf5_0 ?_
  refine sn_su0r C rfl uJ5_length_8abf5 kJ4_343 dJ4_length_8abf5_1 (Nat.le_of_ble_eq_true rfl) (c_J5_length hl) (by decide) (by decide) (by decide) ?_
  exact sn_iret C rfl hF dJ4_length_8abf5_4 (by decide) (by decide) rfl rfl rfl rfl

set_option maxRecDepth 100000 in
set_option maxHeartbeats 4000000 in
theorem c_J1_canEncode {l : Launch} (hl : l.stackTraces = false) {G : zG} {S : zS} {J : Int64} {E : UInt64} {x : Nat} (hx : x < 128) : nCR l G mJ1_canEncode_fc78d 0 0 0 [zi x] S J E (some (zi true.toNat)) S J E := by
  refine nCR.of hl (by decide) rfl (Nat.le_of_ble_eq_true rfl) (ls := [some (zi x)]) rfl (fun X C hF hX => ?_)
  subst hX
  refine sw_iload_0 C dJ1_canEncode_fc78d_0 ?_
  refine sn_sipush C 255 (by decide) dJ1_canEncode_fc78d_1 ?_
  refine sn_icmp_gt C 11 (by omega) (by omega) dJ1_canEncode_fc78d_4 (by decide) (fun c4 => ?_) (fun c4 => ?_)
  · omega
  · refine sn_iconst C 1 (by decide) dJ1_canEncode_fc78d_7 ?_
    refine sw_goto C 12 dJ1_canEncode_fc78d_8 (by decide) ?_
    exact sn_zret C (v := true) rfl hF dJ1_canEncode_fc78d_12 (by decide) (by decide) (by rfl) rfl rfl rfl

set_option maxRecDepth 100000 in
set_option maxHeartbeats 4000000 in
theorem c_J8_newLength {l : Launch} (hl : l.stackTraces = false) {G : zG} {S : zS} {J : Int64} {E : UInt64} {g : Nat} (h1 : 1 ≤ g) (h2 : g ≤ 18) : nCR l G mJ8_newLength_cabcc 1 0 0 [zi 16, zi g, zi 18] S J E (some (zi 34)) S J E := by
  refine nCR.of hl (by decide) rfl (Nat.le_of_ble_eq_true rfl) (ls := [some (zi 16), some (zi g), some (zi 18), none]) rfl (fun X C hF hX => ?_)
  subst hX
  refine sw_iload_0 C dJ8_newLength_cabcc_0 ?_
  refine sw_iload_1 C dJ8_newLength_cabcc_1 ?_
  refine sw_iload_2 C dJ8_newLength_cabcc_2 ?_
  refine sn_max C (z := 18) kJ8_194 (by
    by_cases h : g < 18
    · rw [if_pos ((nI_ltI (by omega) (by omega)).mpr h)]
    · have e : g = 18 := by omega
      subst e; rfl) (by decide) (by decide) (by decide) dJ8_newLength_cabcc_3 ?_
  refine sn_iadd C dJ8_newLength_cabcc_6 ?_
  refine sw_istore_3 C rfl dJ8_newLength_cabcc_7 ?_
  refine sn_iconst C 0 (by decide) dJ8_newLength_cabcc_8 ?_
  refine sw_iload_3 C dJ8_newLength_cabcc_9 ?_
  refine sn_icmp_ge C 21 (by omega) (by omega) dJ8_newLength_cabcc_10 (by decide) (fun c10 => ?_) (fun c10 => ?_)
  · omega
  · refine sw_iload_3 C dJ8_newLength_cabcc_13 ?_
    refine sn_ldc2 C 2147483639 (by decide) wSbSoft dJ8_newLength_cabcc_14 ?_
    refine sn_icmp_gt C 21 (by omega) (by omega) dJ8_newLength_cabcc_16 (by decide) (fun c16 => ?_) (fun c16 => ?_)
    · omega
    · refine sw_iload_3 C dJ8_newLength_cabcc_19 ?_
      exact sn_iret C rfl hF dJ8_newLength_cabcc_20 (by decide) (by decide) (by rfl) rfl rfl rfl

set_option maxRecDepth 100000 in
set_option maxHeartbeats 4000000 in
theorem c_J5_newCapacity {l : Launch} (hl : l.stackTraces = false) {G : zG} {S : zS} {J : Int64} {E : UInt64} (hG : G.2.2.1 298 = 1) {m : Nat} (h0 : S 10 1 = 0) (hcap : S 10 99 = 16) (h1 : 16 < m) (h2 : m ≤ 34) : nCR l G mJ5_newCapacity_0f7a4 2 0 0 [.ref 10, zi m] S J E (some (zi 34)) S J E := by
  refine nCR.of hl (by decide) rfl (Nat.le_of_ble_eq_true rfl) (ls := [some (.ref 10), some (zi m), none, none, none, none]) rfl (fun X C hF hX => ?_)
  subst hX
  refine sw_aload_0 C dJ5_newCapacity_0f7a4_0 ?_
  refine sw_getV C hG fJ5_15 dJ5_newCapacity_0f7a4_1 ?_
  refine sn_alenV C hG hcap (by omega) dJ5_newCapacity_0f7a4_4 ?_
  refine sw_istore_2 C rfl dJ5_newCapacity_0f7a4_5 ?_
  refine sw_iload_1 C dJ5_newCapacity_0f7a4_6 ?_
  refine sw_aload_0 C dJ5_newCapacity_0f7a4_7 ?_
  refine sn_getI C fJ5_22 rfl (by decide) rfl dJ5_newCapacity_0f7a4_8 ?_
  rw [h0]
  refine sn_ishl C (by omega) dJ5_newCapacity_0f7a4_11 ?_
  rw [show m * 2 ^ 0 = m from Nat.mul_one _]
  refine sw_istore_3 C rfl dJ5_newCapacity_0f7a4_12 ?_
  refine sw_iload_3 C dJ5_newCapacity_0f7a4_13 ?_
  refine sw_iload_2 C dJ5_newCapacity_0f7a4_14 ?_
  refine sn_isub C (by omega) dJ5_newCapacity_0f7a4_15 ?_
  refine sw_istore_4 C rfl dJ5_newCapacity_0f7a4_16 ?_
  refine sw_iload_2 C dJ5_newCapacity_0f7a4_18 ?_
  refine sw_iload_4 C dJ5_newCapacity_0f7a4_19 ?_
  refine sw_iload_2 C dJ5_newCapacity_0f7a4_21 ?_
  refine sn_iconst C 2 (by decide) dJ5_newCapacity_0f7a4_22 ?_
  refine sw_aload_0 C dJ5_newCapacity_0f7a4_23 ?_
  refine sn_getI C fJ5_22 rfl (by decide) rfl dJ5_newCapacity_0f7a4_24 ?_
  rw [h0]
  refine sn_ishl C (by omega) dJ5_newCapacity_0f7a4_27 ?_
  refine sn_iadd C dJ5_newCapacity_0f7a4_28 ?_
  refine sn_cS3r C vJ8_newLength_cabcc lJ5_114 dJ5_newCapacity_0f7a4_29 (Nat.le_of_ble_eq_true rfl) (c_J8_newLength hl (g := m - 16) (by omega) (by omega)) (by decide) (by decide) (by decide) ?_
  refine sw_istore_5 C rfl dJ5_newCapacity_0f7a4_32 ?_
  refine sw_iload_5 C dJ5_newCapacity_0f7a4_34 ?_
  refine sn_ldc2 C 2147483647 (by decide) wSbMax dJ5_newCapacity_0f7a4_36 ?_
  refine sn_icmp_ne C 51 (by omega) (by omega) dJ5_newCapacity_0f7a4_38 (by decide) (fun c38 => ?_) (fun c38 => ?_)
  · refine sw_iload_5 C dJ5_newCapacity_0f7a4_51 ?_
    refine sw_aload_0 C dJ5_newCapacity_0f7a4_53 ?_
    refine sn_getI C fJ5_22 rfl (by decide) rfl dJ5_newCapacity_0f7a4_54 ?_
    rw [h0]
    refine sn_ishr C (by omega) (by omega) dJ5_newCapacity_0f7a4_57 ?_
    exact sn_iret C rfl hF dJ5_newCapacity_0f7a4_58 (by decide) (by decide) (by rfl) rfl rfl rfl
  · omega

theorem zLe34 : ∀ m : Fin 35, (m.val ≤ 16 → nI m.val - nI 16 ≤ 0) ∧ nI m.val - nI 34 ≤ 0 := by decide +kernel
set_option maxRecDepth 100000 in
set_option maxHeartbeats 4000000 in
theorem c_J5_ensure {l : Launch} (hl : l.stackTraces = false) {G : zG} {S : zS} {J : Int64} {E : UInt64} (hG : G.2.2.1 298 ≠ 1) (B : zSB S) {m : Nat} (hm : m ≤ 34) : nCR l G mJ5_ensureCapacityInternal_d00df 3 1 34 [.ref 10, zi m] S J E none (zSbR S m) J E := by
  obtain ⟨hco, hcap, hcnt, hby⟩ := id B
  refine nCR.of hl (by decide) rfl (Nat.le_of_ble_eq_true rfl) (ls := [some (.ref 10), some (zi m), none]) rfl (fun X C hF hX => ?_)
  subst hX
  refine sn_open (zOutL.ref (by decide) (by decide) (zOutL.int (zOutL.none zOutL.nil))) zOuts.nil (fun va => ?_)
  have C1 := C.w (va := va)
  have hG1 : (zGw G va).2.2.1 298 = 1 := by simp [zGw]
  have ho : ∀ q, zOutL [some (.ref 10), some (zi m), some (zi q)] := fun q => zOutL.ref (by decide) (by decide) (zOutL.int (zOutL.int zOutL.nil))
  refine sw_aload_0 C1 dJ5_ensureCapacityInternal_d00df_0 ?_
  refine sw_getV C1 hG1 fJ5_15 dJ5_ensureCapacityInternal_d00df_1 ?_
  refine sn_alenV C1 hG1 rfl (by omega) dJ5_ensureCapacityInternal_d00df_4 ?_
  refine sw_aload_0 C1 dJ5_ensureCapacityInternal_d00df_5 ?_
  refine sn_getI C1 fJ5_22 rfl (by decide) rfl dJ5_ensureCapacityInternal_d00df_6 ?_
  rw [hco]
  refine sn_ishr C1 (by omega) (by omega) dJ5_ensureCapacityInternal_d00df_9 ?_
  rw [show S 10 99 / 2 ^ 0 = S 10 99 from Nat.div_one _]
  refine sw_istore_2 C1 rfl dJ5_ensureCapacityInternal_d00df_10 ?_
  refine sw_iload_1 C1 dJ5_ensureCapacityInternal_d00df_11 ?_
  refine sw_iload_2 C1 dJ5_ensureCapacityInternal_d00df_12 ?_
  by_cases h : S 10 99 < m
  · have h16 : S 10 99 = 16 := by omega
    refine sn_isub C1 (by omega) dJ5_ensureCapacityInternal_d00df_13 ?_
    refine sn_if_le C1 38 (by omega) dJ5_ensureCapacityInternal_d00df_14 (by decide) (fun c14 => ?_) (fun c14 => ?_)
    · omega
    · refine sw_aload_0 C1 dJ5_ensureCapacityInternal_d00df_17 ?_
      refine sw_aload_0 C1 dJ5_ensureCapacityInternal_d00df_18 ?_
      refine sw_getV C1 hG1 fJ5_15 dJ5_ensureCapacityInternal_d00df_19 ?_
      refine sw_aload_0 C1 dJ5_ensureCapacityInternal_d00df_22 ?_
      refine sw_iload_1 C1 dJ5_ensureCapacityInternal_d00df_23 ?_
      refine sn_pr1r C1 pJ5_newCapacity_0f7a4 kJ5_104 dJ5_ensureCapacityInternal_d00df_24 (Nat.le_of_ble_eq_true rfl) (c_J5_newCapacity hl hG1 hco h16 (by omega) hm) (by decide) (by decide) (by decide) ?_
      refine sw_aload_0 C1 dJ5_ensureCapacityInternal_d00df_27 ?_
      refine sn_getI C1 fJ5_22 rfl (by decide) rfl dJ5_ensureCapacityInternal_d00df_28 ?_
      rw [hco]
      refine sn_ishl C1 (by omega) dJ5_ensureCapacityInternal_d00df_31 ?_
      refine sw_grow C rfl hG (by decide) (n' := 34) (by rw [zCap_n rfl (by omega)]; omega) (by decide) (fun i _ => (zByt (hby i)).2.2) (ho _) zOuts.nil (by decide) (by decide) (by decide) dJ5_ensureCapacityInternal_d00df_32 dJ5_ensureCapacityInternal_d00df_35 ?_
      rw [zGr_in (by omega)]
      exact sn_vret C rfl hF dJ5_ensureCapacityInternal_d00df_38 (by decide) (by decide) (by unfold zSbR; rw [if_pos h]) rfl rfl
  · refine sw_isub C1 dJ5_ensureCapacityInternal_d00df_13 ?_
    refine sw_if_le C1 38 dJ5_ensureCapacityInternal_d00df_14 (by decide) (fun c14 => ?_) (fun c14 => ?_)
    · refine sn_close hG (ho _) zOuts.nil ?_
      exact sn_vret C rfl hF dJ5_ensureCapacityInternal_d00df_38 (by decide) (by decide) (by unfold zSbR; rw [if_neg h]) rfl rfl
    · exfalso
      apply c14
      have hz := zLe34 ⟨m, by omega⟩
      rcases hcap with hq | hq
      · rw [hq]; exact hz.1 (by show m ≤ 16; omega)
      · rw [hq]; exact hz.2
