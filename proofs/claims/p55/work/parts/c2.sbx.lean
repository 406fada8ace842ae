/-! the JDK's builder of texts, over a raw world -/
abbrev eSb (b n : Nat) : va_E := .inr (1, [.ref b, .int 0, .int 0, zi n])
abbrev eBy (G : zG) (cap : Nat) (f : Nat → Int32) : va_E := .inl (G.2.1 3, cap, .inl f)
abbrev eSt (b : Nat) (h z : Int32) : va_E := .inr (0, [.ref b, .int 0, .int h, .int z])
/-- a text in bytes -/
def tX (f : Nat → Int32) (L : List Nat) : Prop := (∀ j, j < L.length → f j = nI (L.getD j 0)) ∧ (∀ i, fits .byte (.int (f i)) = true) ∧ ∀ c ∈ L, c < 128
/-- the capacity that m letters want, and what it costs -/
def tCap (cap m : Nat) : Nat := if m ≤ cap then cap else max m (2 * cap + 2)
def tCost (cap m : Nat) : Nat := if m ≤ cap then 0 else max m (2 * cap + 2)
theorem tCap_ge {cap m : Nat} : m ≤ tCap cap m ∧ cap ≤ tCap cap m := by unfold tCap; split <;> omega
theorem tCap_pot {cap m : Nat} : 2 * cap + tCost cap m ≤ 2 * tCap cap m := by unfold tCap tCost; split <;> omega
theorem tX.nil : tX (fun _ => 0) [] := ⟨fun j h => absurd h (Nat.not_lt_zero j), fun _ => by decide, fun _ h => by cases h⟩
theorem tX.len {f : Nat → Int32} {L : List Nat} (h : tX f L) {n : Nat} (hn : L.length ≤ n) : tX (zLong f n) L := by
  refine ⟨fun j hj => ?_, fun i => ?_, h.2.2⟩
  · unfold zLong; rw [if_pos (by omega)]; exact h.1 j hj
  · unfold zLong
    split
    · exact h.2.1 i
    · decide
theorem tX.push {f : Nat → Int32} {L : List Nat} (h : tX f L) {c : Nat} (hc : c < 128) : tX (upd f L.length (nI c)) (L ++ [c]) := by
  refine ⟨fun j hj => ?_, fun i => ?_, fun q hq => ?_⟩
  · rw [List.length_append, List.length_singleton] at hj
    by_cases e : j = L.length
    · subst e; simp [upd]
    · have h1 := h.1 j (by omega)
      simp only [upd]
      rw [if_neg e, h1, List.getD_append _ _ _ _ (by omega)]
  · unfold upd
    split
    · exact (zByt hc).2.2
    · exact h.2.1 i
  · rcases List.mem_append.mp hq with h1 | h1
    · exact h.2.2 q h1
    · rw [List.mem_singleton] at h1; omega
section RX
variable {G : zG} {X : zX} {M : zM} {d mc ms a b pc : Nat} {ls : List (Option Value)} {st : List Value} {ws : va_W}
theorem rn_ldc2 (C : zOK G X M d mc ms) {idx : Nat} {v : Int32} (x : Nat) (hv : v = nI x) (hw : Cond.constant M.1.cls idx v ∈ lw_tbl) (hd : decode M.2.1 pc = .ok (.ldc idx, 2)) (k : RW G X a b (pc + 2) ls (zi x :: st) ws) : RW G X a b pc ls st ws := by
  obtain ⟨p, l, e, R, s, m, args, below, meth, c, Q⟩ := X
  intro H locs arr hl hn hP hD hS
  obtain ⟨hx, hb, hml, hown, hlk, hrt, ⟨hT, hK, -⟩, -⟩ := id C
  subst hv
  exact lv_ldc hx hb hown (hT _ hw rfl args) hd (k H locs arr hl hn hP hD hS)
theorem rn_max (C : zOK G X M d mc ms) {x y : Int32} {z idx : Nat} (hL : Cond.methodLink M.1.cls idx Lib.Math.max.name ∈ lw_tbl) (hz : (if x < y then y else x) = nI z) (ha : a ≤ mc) (hb0 : b ≤ ms) (hr : (st.map (fun v => v.category)).sum ≤ 8) (hd : decode M.2.1 pc = .ok (.invokestatic idx, 3)) (k : RW G X a b (pc + 3) ls (zi z :: st) ws) : RW G X a b pc ls (.int y :: .int x :: st) ws := by
  obtain ⟨p, l, e, R, s, m, args, below, meth, c, Q⟩ := X
  intro H locs arr hl hn hP hD hS
  obtain ⟨hx, hb, hml, hown, hlk, hrt, ⟨hT, hK, -⟩, hRm, -⟩ := id C
  have hRm : R = zRm d mc ms := hRm
  subst hRm
  have hcat : (((st.map (zTr zid))).map fun v => v.category).sum ≤ 8 := by
    rw [zMap_id]; exact hr
  refine va_mmax hx hb (by rw [hl.1]; exact hn.symm) hown (hT _ hL rfl args) (hT _ kMaxS rfl args) (hT _ kMathI rfl args) (hT _ kMaxC rfl args) (by simp only [zRm]; omega) (by simp only [zRm]; omega) ha hb0 hd ?_
  rw [hz]
  exact k H locs arr hl hn hP hD hS
theorem rn_i2b (C : zOK G X M d mc ms) {x : Nat} (hx : x < 128) (hd : decode M.2.1 pc = .ok (.i2b, 1)) (k : RW G X a b (pc + 1) ls (zi x :: st) ws) : RW G X a b pc ls (zi x :: st) ws := by
  obtain ⟨p, l, e, R, s, m, args, below, meth, c, Q⟩ := X
  intro H locs arr hl hn hP hD hS
  exact lv_i2b C.1 C.2.1 hd (zByt hx).1 (k H locs arr hl hn hP hD hS)
end RX

theorem zSubLe {m cap : Nat} (h : m ≤ cap) (hc : cap < 2 ^ 30) : nI m - nI cap ≤ 0 := by
  rw [Int32.le_iff_toInt_le, pk_sub_toInt (by omega) (by omega)]
  have : (0 : Int32).toInt = 0 := rfl
  omega

set_option maxRecDepth 100000 in
set_option maxHeartbeats 4000000 in
theorem d_J5_isLatin1 {l : Launch} (hl : l.stackTraces = false) {G : zG} {ws : va_W} {k q b n : Nat} (he : ws[k]? = some (q, eSb b n)) : rCR l G mJ5_isLatin1_aae02 0 0 0 [.ref q] ws (fun r ws' => r = some (zi 1) ∧ ws' = ws) := by
  refine rCR.of hl (by decide) (by simp [Value.category]) (Nat.le_of_ble_eq_true rfl) (ls := [some (.ref q)]) rfl (fun X C hF => ?_)
  refine rw_getCS C wSbCS dJ5_isLatin1_aae02_0 ?_
  refine rn_if_eq C 17 (by decide) dJ5_isLatin1_aae02_3 (by decide) (fun c3 => ?_) (fun c3 => ?_)
  · exact absurd c3 (by decide)
  · refine rw_aload_0 C dJ5_isLatin1_aae02_6 ?_
    refine rp_get C (k := k) (j := 1) fJ5_22 he rfl dJ5_isLatin1_aae02_7 ?_
    refine rn_if_ne C 17 (by decide) dJ5_isLatin1_aae02_10 (by decide) (fun c10 => ?_) (fun c10 => ?_)
    · exact absurd rfl c10
    · refine rn_iconst C 1 (by decide) dJ5_isLatin1_aae02_13 ?_
      refine rw_goto C 18 dJ5_isLatin1_aae02_14 (by decide) ?_
      exact rw_iret C rfl rfl hF dJ5_isLatin1_aae02_18 (by decide) (by decide) ⟨rfl, rfl⟩

set_option maxRecDepth 100000 in
set_option maxHeartbeats 4000000 in
theorem d_J5_length {l : Launch} (hl : l.stackTraces = false) {G : zG} {ws : va_W} {k q b n : Nat} (he : ws[k]? = some (q, eSb b n)) : rCR l G mJ5_length_8abf5 0 0 0 [.ref q] ws (fun r ws' => r = some (zi n) ∧ ws' = ws) := by
  refine rCR.of hl (by decide) (by simp [Value.category]) (Nat.le_of_ble_eq_true rfl) (ls := [some (.ref q)]) rfl (fun X C hF => ?_)
  refine rw_aload_0 C dJ5_length_8abf5_0 ?_
  refine rp_get C (k := k) (j := 3) fJ5_79 he rfl dJ5_length_8abf5_1 ?_
  exact rw_iret C rfl rfl hF dJ5_length_8abf5_4 (by decide) (by decide) ⟨rfl, rfl⟩

set_option maxRecDepth 100000 in
set_option maxHeartbeats 4000000 in
theorem d_J4_length {l : Launch} (hl : l.stackTraces = false) {G : zG} {ws : va_W} {k q b n : Nat} (he : ws[k]? = some (q, eSb b n)) : rCR l G mJ4_length_8abf5 1 0 0 [.ref q] ws (fun r ws' => r = some (zi n) ∧ ws' = ws) := by
  refine rCR.of hl (by decide) (by simp [Value.category]) (Nat.le_of_ble_eq_true rfl) (ls := [some (.ref q)]) rfl (fun X C hF => ?_)
  refine rw_aload_0 C dJ4_length_8abf5_0 ?_
  refine rw_callSup (as := []) C rfl uJ5_length_8abf5 kJ4_343 he dJ4_length_8abf5_1 rfl (Nat.le_of_ble_eq_true rfl) (d_J5_length hl he) (by decide) (by decide) (by decide) (fun r ws2 hq => ?_)
  obtain ⟨rfl, rfl⟩ := hq
  exact rw_iret C rfl rfl hF dJ4_length_8abf5_4 (by decide) (by decide) ⟨rfl, rfl⟩

set_option maxRecDepth 100000 in
set_option maxHeartbeats 4000000 in
theorem d_J1_canEncode {l : Launch} (hl : l.stackTraces = false) {G : zG} {ws : va_W} {c : Nat} (hc : c < 128) : rCR l G mJ1_canEncode_fc78d 0 0 0 [zi c] ws (fun r ws' => r = some (zi 1) ∧ ws' = ws) := by
  refine rCR.of hl (by decide) (by simp [Value.category]) (Nat.le_of_ble_eq_true rfl) (ls := [some (zi c)]) rfl (fun X C hF => ?_)
  refine rw_iload_0 C dJ1_canEncode_fc78d_0 ?_
  refine rn_sipush C 255 (by decide) dJ1_canEncode_fc78d_1 ?_
  refine rn_icmp_gt C 11 (by omega) (by omega) dJ1_canEncode_fc78d_4 (by decide) (fun c4 => ?_) (fun c4 => ?_)
  · omega
  · refine rn_iconst C 1 (by decide) dJ1_canEncode_fc78d_7 ?_
    refine rw_goto C 12 dJ1_canEncode_fc78d_8 (by decide) ?_
    exact rw_iret C rfl rfl hF dJ1_canEncode_fc78d_12 (by decide) (by decide) ⟨rfl, rfl⟩

set_option maxRecDepth 100000 in
set_option maxHeartbeats 4000000 in
theorem d_J8_newLength {l : Launch} (hl : l.stackTraces = false) {G : zG} {ws : va_W} {n g h z : Nat} (hz : z = n + max g h) (hs : z < 2 ^ 24) (hp : 0 < z) : rCR l G mJ8_newLength_cabcc 1 0 0 [zi n, zi g, zi h] ws (fun r ws' => r = some (zi z) ∧ ws' = ws) := by
  refine rCR.of hl (by decide) (by simp [Value.category]) (Nat.le_of_ble_eq_true rfl) (ls := [some (zi n), some (zi g), some (zi h), none]) rfl (fun X C hF => ?_)
  refine rw_iload_0 C dJ8_newLength_cabcc_0 ?_
  refine rw_iload_1 C dJ8_newLength_cabcc_1 ?_
  refine rw_iload_2 C dJ8_newLength_cabcc_2 ?_
  refine rn_max C (z := max g h) kJ8_194 (by
      by_cases h2 : g < h
      · rw [if_pos ((nI_ltI (by omega) (by omega)).mpr h2)]; congr 1; omega
      · rw [if_neg (fun q => h2 ((nI_ltI (by omega) (by omega)).mp q))]; congr 1; omega) (by decide) (by decide) (by simp [Value.category]) dJ8_newLength_cabcc_3 ?_
  refine rn_iadd C dJ8_newLength_cabcc_6 ?_
  refine rw_istore_3 C rfl dJ8_newLength_cabcc_7 ?_
  refine rn_iconst C 0 (by decide) dJ8_newLength_cabcc_8 ?_
  refine rw_iload_3 C dJ8_newLength_cabcc_9 ?_
  refine rn_icmp_ge C 21 (by omega) (by omega) dJ8_newLength_cabcc_10 (by decide) (fun c10 => ?_) (fun c10 => ?_)
  · omega
  · refine rw_iload_3 C dJ8_newLength_cabcc_13 ?_
    refine rn_ldc2 C 2147483639 (by decide) wSbSoft dJ8_newLength_cabcc_14 ?_
    refine rn_icmp_gt C 21 (by omega) (by omega) dJ8_newLength_cabcc_16 (by decide) (fun c16 => ?_) (fun c16 => ?_)
    · omega
    · refine rw_iload_3 C dJ8_newLength_cabcc_19 ?_
      exact rw_iret C rfl rfl hF dJ8_newLength_cabcc_20 (by decide) (by decide) ⟨by rw [hz], rfl⟩

set_option maxRecDepth 100000 in
set_option maxHeartbeats 4000000 in
theorem d_J5_newCapacity {l : Launch} (hl : l.stackTraces = false) {G : zG} {ws : va_W} {k k2 q b n cap m : Nat} {f : Nat → Int32} (he : ws[k]? = some (q, eSb b n)) (hb : ws[k2]? = some (b, eBy G cap f)) (hm : cap < m) (hs : max m (2 * cap + 2) < 2 ^ 24) : rCR l G mJ5_newCapacity_0f7a4 2 0 0 [.ref q, zi m] ws (fun r ws' => r = some (zi (max m (2 * cap + 2))) ∧ ws' = ws) := by
  refine rCR.of hl (by decide) (by simp [Value.category]) (Nat.le_of_ble_eq_true rfl) (ls := [some (.ref q), some (zi m), none, none, none, none]) rfl (fun X C hF => ?_)
  refine rw_aload_0 C dJ5_newCapacity_0f7a4_0 ?_
  refine rp_get C (k := k) (j := 0) fJ5_15 he rfl dJ5_newCapacity_0f7a4_1 ?_
  refine rw_alenb C hb dJ5_newCapacity_0f7a4_4 ?_
  refine rw_istore_2 C rfl dJ5_newCapacity_0f7a4_5 ?_
  refine rw_iload_1 C dJ5_newCapacity_0f7a4_6 ?_
  refine rw_aload_0 C dJ5_newCapacity_0f7a4_7 ?_
  refine rp_get C (k := k) (j := 1) fJ5_22 he rfl dJ5_newCapacity_0f7a4_8 ?_
  refine rn_ishl C (y := 0) (by decide) dJ5_newCapacity_0f7a4_11 ?_
  rw [show m * 2 ^ 0 = m from Nat.mul_one _]
  refine rw_istore_3 C rfl dJ5_newCapacity_0f7a4_12 ?_
  refine rw_iload_3 C dJ5_newCapacity_0f7a4_13 ?_
  refine rw_iload_2 C dJ5_newCapacity_0f7a4_14 ?_
  refine rn_isub C (by omega) dJ5_newCapacity_0f7a4_15 ?_
  refine rw_istore_4 C rfl dJ5_newCapacity_0f7a4_16 ?_
  refine rw_iload_2 C dJ5_newCapacity_0f7a4_18 ?_
  refine rw_iload_4 C dJ5_newCapacity_0f7a4_19 ?_
  refine rw_iload_2 C dJ5_newCapacity_0f7a4_21 ?_
  refine rn_iconst C 2 (by decide) dJ5_newCapacity_0f7a4_22 ?_
  refine rw_aload_0 C dJ5_newCapacity_0f7a4_23 ?_
  refine rp_get C (k := k) (j := 1) fJ5_22 he rfl dJ5_newCapacity_0f7a4_24 ?_
  refine rn_ishl C (y := 0) (by decide) dJ5_newCapacity_0f7a4_27 ?_
  refine rn_iadd C dJ5_newCapacity_0f7a4_28 ?_
  refine rw_callS (as := [zi cap, zi (m - cap), zi (cap + 2 * 2 ^ 0)]) C vJ8_newLength_cabcc lJ5_114 dJ5_newCapacity_0f7a4_29 rfl (Nat.le_of_ble_eq_true rfl) (d_J8_newLength hl (z := max m (2 * cap + 2)) (by omega) hs (by omega)) (by decide) (by decide) (by decide) (fun r ws2 hq => ?_)
  obtain ⟨rfl, rfl⟩ := hq
  refine rw_istore_5 C rfl dJ5_newCapacity_0f7a4_32 ?_
  refine rw_iload_5 C dJ5_newCapacity_0f7a4_34 ?_
  refine rn_ldc2 C 2147483647 (by decide) wSbMax dJ5_newCapacity_0f7a4_36 ?_
  refine rn_icmp_ne C 51 (by omega) (by omega) dJ5_newCapacity_0f7a4_38 (by decide) (fun c38 => ?_) (fun c38 => ?_)
  · refine rw_iload_5 C dJ5_newCapacity_0f7a4_51 ?_
    refine rw_aload_0 C dJ5_newCapacity_0f7a4_53 ?_
    refine rp_get C (k := k) (j := 1) fJ5_22 he rfl dJ5_newCapacity_0f7a4_54 ?_
    refine rn_ishr C (y := 0) (by omega) (by decide) dJ5_newCapacity_0f7a4_57 ?_
    rw [show ∀ z : Nat, z / 2 ^ 0 = z from fun z => Nat.div_one z]
    exact rw_iret C rfl rfl hF dJ5_newCapacity_0f7a4_58 (by decide) (by decide) ⟨rfl, rfl⟩
  · omega

set_option maxRecDepth 100000 in
set_option maxHeartbeats 4000000 in
theorem d_J5_ensure {l : Launch} (hl : l.stackTraces = false) {G : zG} {w : va_W} {q b n cap m : Nat} {f : Nat → Int32} (hf : ∀ i, fits .byte (.int (f i)) = true) (hs : max m (2 * cap + 2) < 2 ^ 20) : rCR l G mJ5_ensureCapacityInternal_d00df 3 1 (tCost cap m) [.ref q, zi m] ((q, eSb b n) :: (b, eBy G cap f) :: w) (fun r ws' => r = none ∧ ∃ b2 f2, ws' = (q, eSb b2 n) :: (b2, eBy G (tCap cap m) f2) :: w ∧ (∀ i, fits .byte (.int (f2 i)) = true) ∧ ∀ i, i < cap → f2 i = f i) := by
  refine rCR.of hl (by decide) (by simp [Value.category]) (Nat.le_of_ble_eq_true rfl) (ls := [some (.ref q), some (zi m), none]) rfl (fun X C hF => ?_)
  refine rw_aload_0 C dJ5_ensureCapacityInternal_d00df_0 ?_
  refine rp_get C (k := 0) (j := 0) fJ5_15 rfl rfl dJ5_ensureCapacityInternal_d00df_1 ?_
  refine rw_alenb C (k := 1) rfl dJ5_ensureCapacityInternal_d00df_4 ?_
  refine rw_aload_0 C dJ5_ensureCapacityInternal_d00df_5 ?_
  refine rp_get C (k := 0) (j := 1) fJ5_22 rfl rfl dJ5_ensureCapacityInternal_d00df_6 ?_
  refine rn_ishr C (y := 0) (by omega) (by decide) dJ5_ensureCapacityInternal_d00df_9 ?_
  rw [show cap / 2 ^ 0 = cap from Nat.div_one _]
  refine rw_istore_2 C rfl dJ5_ensureCapacityInternal_d00df_10 ?_
  refine rw_iload_1 C dJ5_ensureCapacityInternal_d00df_11 ?_
  refine rw_iload_2 C dJ5_ensureCapacityInternal_d00df_12 ?_
  by_cases hmc : m ≤ cap
  · have hcc : tCost cap m = 0 := by unfold tCost; rw [if_pos hmc]
    refine rw_isub C dJ5_ensureCapacityInternal_d00df_13 ?_
    refine rw_if_le C 38 dJ5_ensureCapacityInternal_d00df_14 (by decide) (fun c14 => ?_) (fun c14 => ?_)
    · exact rw_vret C rfl hF dJ5_ensureCapacityInternal_d00df_38 (by omega) (by omega) ⟨rfl, b, f, by unfold tCap; rw [if_pos hmc], hf, fun _ _ => rfl⟩
    · exact absurd (zSubLe hmc (by omega)) c14
  have hcc : tCost cap m = max m (2 * cap + 2) := by unfold tCost; rw [if_neg hmc]
  have hcp : tCap cap m = max m (2 * cap + 2) := by unfold tCap; rw [if_neg hmc]
  refine rn_isub C (by omega) dJ5_ensureCapacityInternal_d00df_13 ?_
  refine rn_if_le C 38 (by omega) dJ5_ensureCapacityInternal_d00df_14 (by decide) (fun c14 => ?_) (fun c14 => ?_)
  · omega
  · refine rw_aload_0 C dJ5_ensureCapacityInternal_d00df_17 ?_
    refine rw_aload_0 C dJ5_ensureCapacityInternal_d00df_18 ?_
    refine rp_get C (k := 0) (j := 0) fJ5_15 rfl rfl dJ5_ensureCapacityInternal_d00df_19 ?_
    refine rw_aload_0 C dJ5_ensureCapacityInternal_d00df_22 ?_
    refine rw_iload_1 C dJ5_ensureCapacityInternal_d00df_23 ?_
    refine rw_callP (as := [zi m]) C pJ5_newCapacity_0f7a4 kJ5_104 (k0 := 0) rfl dJ5_ensureCapacityInternal_d00df_24 rfl (by simp [Value.category]) (d_J5_newCapacity hl (k := 0) (k2 := 1) rfl rfl (by omega) (by omega)) (by decide) (by decide) (by omega) (fun r ws2 hq => ?_)
    obtain ⟨rfl, rfl⟩ := hq
    refine rw_aload_0 C dJ5_ensureCapacityInternal_d00df_27 ?_
    refine rp_get C (k := 0) (j := 1) fJ5_22 rfl rfl dJ5_ensureCapacityInternal_d00df_28 ?_
    refine rn_ishl C (y := 0) (by decide) dJ5_ensureCapacityInternal_d00df_31 ?_
    rw [show max m (2 * cap + 2) * 2 ^ 0 = max m (2 * cap + 2) from Nat.mul_one _]
    refine rw_callS (as := [.ref b, zi (max m (2 * cap + 2))]) C vJ7_copyOf_9075b lJ5_108 dJ5_ensureCapacityInternal_d00df_32 rfl (by simp [Value.category]) (c_J7_copyOf hl (k := 1) rfl (by omega) (by omega) (fun i _ => hf i)) (by decide) (by decide) (by omega) (fun r ws2 hq => ?_)
    obtain ⟨b2, rfl, rfl⟩ := hq
    refine rp_put C (k := 0) (j := 0) fJ5_15 rfl rfl rfl rfl rfl (by decide) rfl dJ5_ensureCapacityInternal_d00df_35 ?_
    rw [hcc] at hF ⊢
    refine RW.front (ws := (q, eSb b2 n) :: (b, eBy G cap f) :: w) (q := (b2, eBy G (max m (2 * cap + 2)) (zLong f cap))) ?_
    refine RW.part (Y := [(b2, eBy G (max m (2 * cap + 2)) (zLong f cap)), (q, eSb b2 n), (b, eBy G cap f)]) (cx := [(q, eSb b2 n), (b2, eBy G (max m (2 * cap + 2)) (zLong f cap))]) (pl := w) [1, 0] rfl rfl ?_
    exact rw_vret C rfl hF dJ5_ensureCapacityInternal_d00df_38 (by omega) (by omega) ⟨rfl, b2, zLong f cap, by rw [hcp]; rfl, fun i => by unfold zLong; split; exact hf i; decide, fun i hi => by unfold zLong; rw [if_pos hi]⟩

set_option maxRecDepth 100000 in
set_option maxHeartbeats 4000000 in
theorem d_J5_appendC {l : Launch} (hl : l.stackTraces = false) {G : zG} {w : va_W} {q b cap c : Nat} {f : Nat → Int32} {L : List Nat} (ht : tX f L) (hlc : L.length ≤ cap) (hc : c < 128) (hs : max (L.length + 1) (2 * cap + 2) < 2 ^ 20) : rCR l G mJ5_append_3fe6f 4 1 (tCost cap (L.length + 1)) [.ref q, zi c] ((q, eSb b L.length) :: (b, eBy G cap f) :: w) (fun r ws' => r = some (.ref q) ∧ ∃ b2 f2, ws' = (q, eSb b2 (L ++ [c]).length) :: (b2, eBy G (tCap cap (L.length + 1)) f2) :: w ∧ tX f2 (L ++ [c])) := by
  refine rCR.of hl (by decide) (by simp [Value.category]) (Nat.le_of_ble_eq_true rfl) (ls := [some (.ref q), some (zi c)]) rfl (fun X C hF => ?_)
  refine rw_aload_0 C dJ5_append_3fe6f_0 ?_
  refine rw_aload_0 C dJ5_append_3fe6f_1 ?_
  refine rp_get C (k := 0) (j := 3) fJ5_79 rfl rfl dJ5_append_3fe6f_2 ?_
  refine rn_iconst C 1 (by decide) dJ5_append_3fe6f_5 ?_
  refine rn_iadd C dJ5_append_3fe6f_6 ?_
  refine rw_callP (as := [zi (L.length + 1)]) C pJ5_ensureCapacityInternal_d00df kJ5_100 (k0 := 0) rfl dJ5_append_3fe6f_7 rfl (by simp [Value.category]) (d_J5_ensure hl ht.2.1 hs) (by decide) (by decide) (by omega) (fun r ws2 hq => ?_)
  obtain ⟨rfl, b2, f2, rfl, hf2, hk2⟩ := hq
  have ht2 : tX f2 L := ⟨fun j hj => by rw [hk2 j (by omega)]; exact ht.1 j hj, hf2, ht.2.2⟩
  have hge := tCap_ge (cap := cap) (m := L.length + 1)
  have hle : tCap cap (L.length + 1) < 2 ^ 20 := by unfold tCap; split <;> omega
  refine rw_aload_0 C dJ5_append_3fe6f_10 ?_
  refine rw_callU (as := []) C uJ5_isLatin1_aae02 wSbIL kJ5_83 (k0 := 0) rfl dJ5_append_3fe6f_11 rfl (by simp) (d_J5_isLatin1 hl (k := 0) rfl) (by decide) (by decide) (by omega) (fun r ws2 hq => ?_)
  obtain ⟨rfl, rfl⟩ := hq
  refine rn_if_eq C 45 (by decide) dJ5_append_3fe6f_14 (by decide) (fun c14 => ?_) (fun c14 => ?_)
  · exact absurd c14 (by decide)
  · refine rw_iload_1 C dJ5_append_3fe6f_17 ?_
    refine rw_callS (as := [zi c]) C vJ1_canEncode_fc78d lJ5_191 dJ5_append_3fe6f_18 rfl (by simp) (d_J1_canEncode hl hc) (by decide) (by decide) (by omega) (fun r ws2 hq => ?_)
    obtain ⟨rfl, rfl⟩ := hq
    refine rn_if_eq C 45 (by decide) dJ5_append_3fe6f_21 (by decide) (fun c21 => ?_) (fun c21 => ?_)
    · exact absurd c21 (by decide)
    · refine rw_aload_0 C dJ5_append_3fe6f_24 ?_
      refine rp_get C (k := 0) (j := 0) fJ5_15 rfl rfl dJ5_append_3fe6f_25 ?_
      refine rw_aload_0 C dJ5_append_3fe6f_28 ?_
      refine rw_dup C rfl dJ5_append_3fe6f_29 ?_
      refine rp_get C (k := 0) (j := 3) fJ5_79 rfl rfl dJ5_append_3fe6f_30 ?_
      refine rw_dup_x1 C rfl rfl dJ5_append_3fe6f_33 ?_
      refine rn_iconst C 1 (by decide) dJ5_append_3fe6f_34 ?_
      refine rn_iadd C dJ5_append_3fe6f_35 ?_
      refine rp_put C (k := 0) (j := 3) fJ5_79 rfl rfl rfl rfl rfl (by decide) rfl dJ5_append_3fe6f_36 ?_
      refine rw_iload_1 C dJ5_append_3fe6f_39 ?_
      refine rn_i2b C hc dJ5_append_3fe6f_40 ?_
      refine rp_bast C (k := 1) rfl (by omega) (by omega) (by rw [(zByt hc).2.1]; rfl) dJ5_append_3fe6f_41 ?_
      refine rw_goto C 75 dJ5_append_3fe6f_42 (by decide) ?_
      refine rw_aload_0 C dJ5_append_3fe6f_75 ?_
      exact rw_aret C rfl rfl hF dJ5_append_3fe6f_76 (by omega) (by omega) ⟨rfl, b2, upd f2 L.length (nI c), by rw [List.length_append]; rfl, ht2.push hc⟩

set_option maxRecDepth 100000 in
set_option maxHeartbeats 4000000 in
theorem d_J4_appendC {l : Launch} (hl : l.stackTraces = false) {G : zG} {w : va_W} {q b cap c : Nat} {f : Nat → Int32} {L : List Nat} (ht : tX f L) (hlc : L.length ≤ cap) (hc : c < 128) (hs : max (L.length + 1) (2 * cap + 2) < 2 ^ 20) : rCR l G mJ4_append_cf468 5 1 (tCost cap (L.length + 1)) [.ref q, zi c] ((q, eSb b L.length) :: (b, eBy G cap f) :: w) (fun r ws' => r = some (.ref q) ∧ ∃ b2 f2, ws' = (q, eSb b2 (L ++ [c]).length) :: (b2, eBy G (tCap cap (L.length + 1)) f2) :: w ∧ tX f2 (L ++ [c])) := by
  refine rCR.of hl (by decide) (by simp [Value.category]) (Nat.le_of_ble_eq_true rfl) (ls := [some (.ref q), some (zi c)]) rfl (fun X C hF => ?_)
  refine rw_aload_0 C dJ4_append_cf468_0 ?_
  refine rw_iload_1 C dJ4_append_cf468_1 ?_
  refine rw_callSup (as := [zi c]) C rfl uJ5_append_3fe6f kJ4_50 (k0 := 0) rfl dJ4_append_cf468_2 rfl (by simp) (d_J5_appendC hl ht hlc hc hs) (by decide) (by decide) (by omega) (fun r ws2 hq => ?_)
  obtain ⟨rfl, b2, f2, rfl, hf2⟩ := hq
  refine rw_pop C rfl dJ4_append_cf468_5 ?_
  refine rw_aload_0 C dJ4_append_cf468_6 ?_
  exact rw_aret C rfl rfl hF dJ4_append_cf468_7 (by omega) (by omega) ⟨rfl, b2, f2, rfl, hf2⟩

