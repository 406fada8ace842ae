/-! strings made, strings compared -/
abbrev eS0 : va_E := .inr (0, [.null, .int 0, .int 0, .int 0])
abbrev eB0 : va_E := .inr (1, [.null, .int 0, .int 0, .int 0])
section RT
variable {G : zG} {X : zX} {M : zM} {d mc ms a b pc : Nat} {ls : List (Option Value)} {st : List Value} {ws ws' : va_W}
theorem RW.ne {i j q1 q2 : Nat} {e1 e2 : va_E} (h1 : ws[i]? = some (q1, e1)) (h2 : ws[j]? = some (q2, e2)) (hij : i ≠ j) (k : q1 ≠ q2 → RW G X a b pc ls st ws) : RW G X a b pc ls st ws := by
  obtain ⟨p, l, e, R, s, m, args, below, meth, c, Q⟩ := X
  intro H locs arr hl hn hP hD hS
  exact k (fun h => hij (hD.1 i j _ _ h1 h2 h)) H locs arr hl hn hP hD hS
theorem rs_bald (C : zOK G X M d mc ms) {q bb n i : Nat} {f : Nat → Int32} (hv : sV G ws q bb n f) (hi : i < n) (hn30 : n < 2 ^ 30) (hd : decode M.2.1 pc = .ok (.baload, 1)) (kk : RW G X a b (pc + 1) ls (.int (f i) :: st) ws) : RW G X a b pc ls (zi i :: .ref bb :: st) ws := by
  rcases hv with ⟨h, z, -, h1⟩ | ⟨k, hk, rfl, rfl, rfl, hf⟩
  · obtain ⟨i0, hi0⟩ := List.getElem?_of_mem h1
    exact rp_bald C hi0 hi hn30 hd kk
  · rw [hf i] at kk
    obtain ⟨p, l, e, R, s, m, args, below, meth, c, Q⟩ := X
    intro H locs arr hl hn hP hD hS
    obtain ⟨hx, hb, hml, hown, hlk, hrt, ⟨hT, hK, -, -, -, -, hfr⟩, -⟩ := id C
    refine va_tb hx hb (hfr.2.2.2.2.2.2.1 k hk).2.2.2 hS (i := nI i) (zInp hi (by omega)) (v := .int ((zLbyt.getD k []).getD i 0)) ?_ hd (kk H locs arr hl hn hP hD hS)
    rw [nI_clamp (by omega)]
theorem rs_inst (C : zOK G X M d mc ms) {q bb n : Nat} {f : Nat → Int32} (hv : sV G ws q bb n f) (hM : M.1.cls = "java/lang/String") (hd : decode M.2.1 pc = .ok (.instanceof 10, 3)) (kk : RW G X a b (pc + 3) ls (zi 1 :: st) ws) : RW G X a b pc ls (.ref q :: st) ws := by
  obtain ⟨p, l, e, R, s, m, args, below, meth, c, Q⟩ := X
  intro H locs arr hl hn hP hD hS
  obtain ⟨hx, hb, hml, hown, hlk, hrt, hF, -⟩ := id C
  rw [hM] at hown
  have hat : ClassAt s "java/lang/String" (G.1.1 0) := (hF.2.1.1 0 (zCls 0) rfl).2
  exact va_instS hx hb hown (hF.1 _ cStr rfl args) hat (hv.recv hF hP hS) hd (kk H locs arr hl hn hP hD hS)
theorem rs_cast (C : zOK G X M d mc ms) {q bb n : Nat} {f : Nat → Int32} (hv : sV G ws q bb n f) (hM : M.1.cls = "java/lang/String") (hd : decode M.2.1 pc = .ok (.checkcast 10, 3)) (kk : RW G X a b (pc + 3) ls (.ref q :: st) ws) : RW G X a b pc ls (.ref q :: st) ws := by
  obtain ⟨p, l, e, R, s, m, args, below, meth, c, Q⟩ := X
  intro H locs arr hl hn hP hD hS
  obtain ⟨hx, hb, hml, hown, hlk, hrt, hF, -⟩ := id C
  rw [hM] at hown
  have hat : ClassAt s "java/lang/String" (G.1.1 0) := (hF.2.1.1 0 (zCls 0) rfl).2
  exact va_castS hx hb hown (hF.1 _ cStr rfl args) hat (hv.recv hF hP hS) hd (kk H locs arr hl hn hP hD hS)
end RT

set_option maxRecDepth 100000 in
set_option maxHeartbeats 4000000 in
theorem d_J7_checkLength {l : Launch} (hl : l.stackTraces = false) {G : zG} {ws : va_W} {n m : Nat} (hm : n ≤ m) (h30 : m < 2 ^ 30) : rCR l G mJ7_checkLength_df160 0 0 0 [zi n, zi m] ws (fun r ws' => r = none ∧ ws' = ws) := by
  refine rCR.of hl (by decide) (by simp [Value.category]) (Nat.le_of_ble_eq_true rfl) (ls := [some (zi n), some (zi m)]) rfl (fun X C hF => ?_)
  refine rw_iload_1 C dJ7_checkLength_df160_0 ?_
  refine rw_iload_0 C dJ7_checkLength_df160_1 ?_
  refine rn_icmp_ge C 37 (by omega) (by omega) dJ7_checkLength_df160_2 (by decide) (fun c2 => ?_) (fun c2 => by omega)
  exact rw_vret C rfl hF dJ7_checkLength_df160_37 (by decide) (by decide) ⟨rfl, rfl⟩

set_option maxRecDepth 100000 in
set_option maxHeartbeats 4000000 in
theorem d_J7_copyOfRangeByte {l : Launch} (hl : l.stackTraces = false) {G : zG} {ws : va_W} {k b n cap : Nat} {f : Nat → Int32} (he : ws[k]? = some (b, eBy G cap f)) (hn : n ≤ cap) (hc : cap < 2 ^ 20) (hf : ∀ i, fits .byte (.int (f i)) = true) : rCR l G mJ7_copyOfRangeByte_39247 1 1 n [.ref b, zi 0, zi n] ws (fun r ws' => ∃ q2 f2, r = some (.ref q2) ∧ ws' = ws ++ [(q2, eBy G n f2)] ∧ (∀ i, fits .byte (.int (f2 i)) = true) ∧ ∀ j, j < n → f2 j = f j) := by
  refine rCR.of hl (by decide) (by simp [Value.category]) (Nat.le_of_ble_eq_true rfl) (ls := [some (.ref b), some (zi 0), some (zi n), none, none]) rfl (fun X C hF => ?_)
  refine rw_iload_1 C dJ7_copyOfRangeByte_39247_0 ?_
  refine rw_iload_2 C dJ7_copyOfRangeByte_39247_1 ?_
  refine rw_callS (as := [zi 0, zi n]) C vJ7_checkLength_df160 lJ7_343 dJ7_copyOfRangeByte_39247_2 rfl (by simp) (d_J7_checkLength hl (Nat.zero_le n) (by omega)) (by decide) (by decide) (by omega) (fun r ws2 hq => ?_)
  obtain ⟨rfl, rfl⟩ := hq
  refine rw_iload_2 C dJ7_copyOfRangeByte_39247_5 ?_
  refine rw_iload_1 C dJ7_copyOfRangeByte_39247_6 ?_
  refine rn_isub C (by omega) dJ7_copyOfRangeByte_39247_7 ?_
  refine rw_istore_3 C rfl dJ7_copyOfRangeByte_39247_8 ?_
  refine rw_iload_3 C dJ7_copyOfRangeByte_39247_9 ?_
  refine rw_newb C (by omega) (by decide) (by omega) dJ7_copyOfRangeByte_39247_10 (fun q2 => ?_)
  have hk : k < ws2.length := by
    rcases Nat.lt_or_ge k ws2.length with h | h
    · exact h
    · rw [List.getElem?_eq_none h] at he; cases he
  have he2 : (ws2 ++ [(q2, .inl (G.2.1 3, n, .inl (fun _ => 0)))])[k]? = some (b, .inl (G.2.1 3, cap, .inl f)) := by rw [List.getElem?_append_left hk]; exact he
  have he3 : (ws2 ++ [(q2, (.inl (G.2.1 3, n, .inl (fun _ => 0)) : va_E))])[ws2.length]? = some (q2, .inl (G.2.1 3, n, .inl (fun _ => 0))) := by simp
  refine rw_astore_4 C rfl dJ7_copyOfRangeByte_39247_12 ?_
  refine rw_aload_0 C dJ7_copyOfRangeByte_39247_14 ?_
  refine rw_iload_1 C dJ7_copyOfRangeByte_39247_15 ?_
  refine rw_aload_4 C dJ7_copyOfRangeByte_39247_16 ?_
  refine rn_iconst C 0 (by decide) dJ7_copyOfRangeByte_39247_18 ?_
  refine rw_aload_0 C dJ7_copyOfRangeByte_39247_19 ?_
  refine rw_alenb C he2 dJ7_copyOfRangeByte_39247_20 ?_
  refine rw_iload_1 C dJ7_copyOfRangeByte_39247_21 ?_
  refine rn_isub C (by omega) dJ7_copyOfRangeByte_39247_22 ?_
  refine rw_iload_3 C dJ7_copyOfRangeByte_39247_23 ?_
  refine rw_min C kMinJ7 (by omega) (by omega) (by omega) (by omega) (by simp [Value.category]) dJ7_copyOfRangeByte_39247_24 ?_
  rw [show min (cap - 0) (n - 0) = n by omega]
  refine rw_copyb C kCopyJ7 he2 he3 hn (Nat.le_refl _) (by omega) (fun i _ => hf i) (by decide) dJ7_copyOfRangeByte_39247_27 ?_
  rw [List.set_append_right _ _ (Nat.le_refl _), Nat.sub_self]
  refine rw_aload_4 C dJ7_copyOfRangeByte_39247_30 ?_
  refine rw_aret C rfl rfl hF dJ7_copyOfRangeByte_39247_32 (by omega) (by omega) ⟨q2, va_cpy f (fun _ => 0) 0 0 n, rfl, rfl, fun i => ?_, fun j hj => by rw [pk_cpy_in (by omega) (by omega)]; congr 1; omega⟩
  unfold va_cpy
  split
  · exact hf _
  · decide

set_option maxRecDepth 100000 in
set_option maxHeartbeats 4000000 in
theorem d_J7_copyOfRange {l : Launch} (hl : l.stackTraces = false) {G : zG} {ws : va_W} {k b n cap : Nat} {f : Nat → Int32} (he : ws[k]? = some (b, eBy G cap f)) (hn : n ≤ cap) (hc : cap < 2 ^ 20) (hf : ∀ i, fits .byte (.int (f i)) = true) : rCR l G mJ7_copyOfRange_39247 2 1 n [.ref b, zi 0, zi n] ws (fun r ws' => ∃ q2 f2, r = some (.ref q2) ∧ ws' = ws ++ [(q2, eBy G n f2)] ∧ (∀ i, fits .byte (.int (f2 i)) = true) ∧ ∀ j, j < n → f2 j = f j) := by
  refine rCR.of hl (by decide) (by simp [Value.category]) (Nat.le_of_ble_eq_true rfl) (ls := [some (.ref b), some (zi 0), some (zi n)]) rfl (fun X C hF => ?_)
  refine rw_iload_1 C dJ7_copyOfRange_39247_0 ?_
  refine rn_if_ne C 10 (by decide) dJ7_copyOfRange_39247_1 (by decide) (fun c1 => ?_) (fun c1 => ?_)
  · exact absurd rfl c1
  · refine rw_iload_2 C dJ7_copyOfRange_39247_4 ?_
    refine rw_aload_0 C dJ7_copyOfRange_39247_5 ?_
    refine rw_alenb C he dJ7_copyOfRange_39247_6 ?_
    refine rn_icmp_eq C 17 (by omega) (by omega) dJ7_copyOfRange_39247_7 (by decide) (fun c7 => ?_) (fun c7 => ?_)
    · refine rw_aload_0 C dJ7_copyOfRange_39247_17 ?_
      obtain rfl : n = cap := by omega
      refine rw_clone C he rfl hf (by simp) (by decide) (by omega) dJ7_copyOfRange_39247_18 dJ7_copyOfRange_39247_21 (fun q2 => ?_)
      exact rw_aret C rfl rfl hF dJ7_copyOfRange_39247_24 (by omega) (by omega) ⟨q2, f, rfl, rfl, hf, fun _ _ => rfl⟩
    · refine rw_aload_0 C dJ7_copyOfRange_39247_10 ?_
      refine rw_iload_1 C dJ7_copyOfRange_39247_11 ?_
      refine rw_iload_2 C dJ7_copyOfRange_39247_12 ?_
      refine rw_callS (as := [.ref b, zi 0, zi n]) C vJ7_copyOfRangeByte_39247 lJ7_339 dJ7_copyOfRange_39247_13 rfl (by simp) (d_J7_copyOfRangeByte hl he hn hc hf) (by decide) (by decide) (by omega) (fun r ws2 hq => ?_)
      obtain ⟨q2, f2, rfl, rfl, h1, h2⟩ := hq
      exact rw_aret C rfl rfl hF dJ7_copyOfRange_39247_16 (by omega) (by omega) ⟨q2, f2, rfl, rfl, h1, h2⟩

set_option maxRecDepth 100000 in
set_option maxHeartbeats 4000000 in
theorem d_J5_getValue {l : Launch} (hl : l.stackTraces = false) {G : zG} {ws : va_W} {k q b n : Nat} (he : ws[k]? = some (q, eSb b n)) : rCR l G mJ5_getValue_6d5f1 0 0 0 [.ref q] ws (fun r ws' => r = some (.ref b) ∧ ws' = ws) := by
  refine rCR.of hl (by decide) (by simp [Value.category]) (Nat.le_of_ble_eq_true rfl) (ls := [some (.ref q)]) rfl (fun X C hF => ?_)
  refine rw_aload_0 C dJ5_getValue_6d5f1_0 ?_
  refine rp_get C (k := k) (j := 0) fJ5_15 he rfl dJ5_getValue_6d5f1_1 ?_
  exact rw_aret C rfl rfl hF dJ5_getValue_6d5f1_4 (by decide) (by decide) ⟨rfl, rfl⟩

set_option maxRecDepth 100000 in
set_option maxHeartbeats 4000000 in
theorem d_J0_initV {l : Launch} (hl : l.stackTraces = false) {G : zG} {w : va_W} {q sq b cap : Nat} {f : Nat → Int32} {L : List Nat} (ht : tX f L) (hlc : L.length ≤ cap) (hc : cap < 2 ^ 20) : rCR l G mJ0_init_db425 3 1 L.length [.ref q, .ref sq, .null] ((q, eS0) :: (sq, eSb b L.length) :: (b, eBy G cap f) :: w) (fun r ws' => r = none ∧ ∃ bs fs, ws' = (q, eSt bs 0 0) :: (bs, eBy G L.length fs) :: (sq, eSb b L.length) :: (b, eBy G cap f) :: w ∧ tX fs L) := by
  refine rCR.ofI hl (by decide) rfl (by simp [Value.category]) (Nat.le_of_ble_eq_true rfl) (ls := [some (.ref q), some (.ref sq), some (.null), none, none]) rfl (fun X C hnm hF => ?_)
  refine rw_aload_0 C dJ0_init_db425_0 ?_
  refine rw_objInit C oIJ0 (by simp) dJ0_init_db425_1 ?_
  refine rw_aload_1 C dJ0_init_db425_4 ?_
  refine rw_callU (as := []) C uJ5_getValue_6d5f1 sGV kJ0_552 (k0 := 1) rfl dJ0_init_db425_5 rfl (by simp) (d_J5_getValue hl (k := 1) rfl) (by decide) (by decide) (by omega) (fun r ws2 hq => ?_)
  obtain ⟨rfl, rfl⟩ := hq
  refine rw_astore_3 C rfl dJ0_init_db425_8 ?_
  refine rw_aload_1 C dJ0_init_db425_9 ?_
  refine rw_callUx (as := []) C uJ5_length_8abf5 ⟨vJ4_length_8abf5.1, vJ4_length_8abf5.2.1⟩ sLen kJ0_549 ⟨rfl, rfl⟩ (k0 := 1) rfl dJ0_init_db425_10 rfl (by simp) (d_J4_length hl (k := 1) rfl) (by decide) (by decide) (by omega) (fun r ws2 hq => ?_)
  obtain ⟨rfl, rfl⟩ := hq
  refine rw_istore_4 C rfl dJ0_init_db425_13 ?_
  refine rw_aload_1 C dJ0_init_db425_15 ?_
  refine rw_callU (as := []) C uJ5_isLatin1_aae02 wSbIL kJ0_1047 (k0 := 1) rfl dJ0_init_db425_16 rfl (by simp) (d_J5_isLatin1 hl (k := 1) rfl) (by decide) (by decide) (by omega) (fun r ws2 hq => ?_)
  obtain ⟨rfl, rfl⟩ := hq
  refine rn_if_eq C 41 (by decide) dJ0_init_db425_19 (by decide) (fun c19 => ?_) (fun c19 => ?_)
  · exact absurd c19 (by decide)
  · refine rw_aload_0 C dJ0_init_db425_22 ?_
    refine rn_iconst C 0 (by decide) dJ0_init_db425_23 ?_
    refine rp_putF C hnm (k := 0) (ci := 0) (j := 1) zck0 (by decide) wStrC rfl rfl rfl rfl rfl rfl (by decide) rfl dJ0_init_db425_24 ?_
    refine rw_aload_0 C dJ0_init_db425_27 ?_
    refine rw_aload_3 C dJ0_init_db425_28 ?_
    refine rn_iconst C 0 (by decide) dJ0_init_db425_29 ?_
    refine rw_iload_4 C dJ0_init_db425_30 ?_
    refine rw_callS (as := [.ref b, zi 0, zi L.length]) C vJ7_copyOfRange_39247 lJ0_54 dJ0_init_db425_32 rfl (by simp [Value.category]) (d_J7_copyOfRange hl (k := 2) rfl hlc hc ht.2.1) (by decide) (by decide) (by omega) (fun r ws2 hq => ?_)
    obtain ⟨bs, fs, rfl, rfl, h1, h2⟩ := hq
    refine RW.front ?_
    refine RW.part (Y := [(bs, eBy G L.length fs), (q, .inr (0, [.null, .int 0, .int 0, .int 0]))]) (cx := [(q, .inr (0, [.null, .int 0, .int 0, .int 0])), (bs, eBy G L.length fs)]) (pl := (sq, eSb b L.length) :: (b, eBy G cap f) :: w) [1, 0] rfl rfl ?_
    refine rp_putF C hnm (k := 0) (ci := 0) (j := 0) zck0 (by decide) wStrV rfl rfl rfl rfl rfl rfl (by decide) rfl dJ0_init_db425_35 ?_
    refine rw_goto C 97 dJ0_init_db425_38 (by decide) ?_
    exact rw_vret C rfl hF dJ0_init_db425_97 (by omega) (by omega) ⟨rfl, bs, fs, rfl, fun j hj => by rw [h2 j hj]; exact ht.1 j hj, h1, ht.2.2⟩

set_option maxRecDepth 100000 in
set_option maxHeartbeats 4000000 in
theorem d_J0_init {l : Launch} (hl : l.stackTraces = false) {G : zG} {w : va_W} {q sq b cap : Nat} {f : Nat → Int32} {L : List Nat} (ht : tX f L) (hlc : L.length ≤ cap) (hc : cap < 2 ^ 20) : rCR l G mJ0_init_81219 4 1 L.length [.ref q, .ref sq] ((q, eS0) :: (sq, eSb b L.length) :: (b, eBy G cap f) :: w) (fun r ws' => r = none ∧ ∃ bs fs, ws' = (q, eSt bs 0 0) :: (bs, eBy G L.length fs) :: (sq, eSb b L.length) :: (b, eBy G cap f) :: w ∧ tX fs L) := by
  refine rCR.of hl (by decide) (by simp [Value.category]) (Nat.le_of_ble_eq_true rfl) (ls := [some (.ref q), some (.ref sq)]) rfl (fun X C hF => ?_)
  refine rw_aload_0 C dJ0_init_81219_0 ?_
  refine rw_aload_1 C dJ0_init_81219_1 ?_
  refine rw_null C dJ0_init_81219_2 ?_
  refine rw_callIr (as := [.ref sq, .null]) C vJ0_init_db425 rfl rfl lJ0_489 dJ0_init_81219_3 rfl (by simp) (d_J0_initV hl ht hlc hc) (by decide) (by decide) (by omega) (fun r ws2 hq => ?_)
  obtain ⟨rfl, bs, fs, rfl, h1⟩ := hq
  exact rw_vret C rfl hF dJ0_init_81219_6 (by omega) (by omega) ⟨rfl, bs, fs, rfl, h1⟩

set_option maxRecDepth 100000 in
set_option maxHeartbeats 4000000 in
theorem d_J4_toString {l : Launch} (hl : l.stackTraces = false) {G : zG} {w : va_W} {sq b cap : Nat} {f : Nat → Int32} {L : List Nat} (ht : tX f L) (hlc : L.length ≤ cap) (hc : cap < 2 ^ 20) : rCR l G mJ4_toString_0e30d 5 2 (L.length + 4) [.ref sq] ((sq, eSb b L.length) :: (b, eBy G cap f) :: w) (fun r ws' => ∃ q bs fs, r = some (.ref q) ∧ ws' = (q, eSt bs 0 0) :: (bs, eBy G L.length fs) :: (sq, eSb b L.length) :: (b, eBy G cap f) :: w ∧ tX fs L) := by
  refine rCR.of hl (by decide) (by simp [Value.category]) (Nat.le_of_ble_eq_true rfl) (ls := [some (.ref sq)]) rfl (fun X C hF => ?_)
  refine rw_new C (ci := 0) [.null, .int 0, .int 0, .int 0] zck0 cStrSB nStr iStr rfl (fun j hj => by match j, hj with | 0, _ => rfl | 1, _ => rfl | 2, _ => rfl | 3, _ => rfl) (by decide) (by omega) dJ4_toString_0e30d_0 (fun q => ?_)
  refine RW.front ?_
  refine rw_dup C rfl dJ4_toString_0e30d_3 ?_
  refine rw_aload_0 C dJ4_toString_0e30d_4 ?_
  refine rw_callIr (as := [.ref sq]) C vJ0_init_81219 rfl rfl lJ4_137 dJ4_toString_0e30d_5 rfl (by simp [Value.category]) (d_J0_init hl ht hlc hc) (by decide) (by decide) (by omega) (fun r ws2 hq => ?_)
  obtain ⟨rfl, bs, fs, rfl, h1⟩ := hq
  exact rw_aret C rfl rfl hF dJ4_toString_0e30d_8 (by omega) (by omega) ⟨q, bs, fs, rfl, rfl, h1⟩

theorem tX.eq_of {f1 f2 : Nat → Int32} {L1 L2 : List Nat} (h1 : tX f1 L1) (h2 : tX f2 L2) (hn : L1.length = L2.length) (h : ∀ j, j < L1.length → f1 j = f2 j) : L1 = L2 := by
  apply List.ext_getElem hn
  intro j hj1 hj2
  have e := h j hj1
  rw [h1.1 j hj1, h2.1 j hj2, List.getD_eq_getElem _ _ hj1, List.getD_eq_getElem _ _ hj2] at e
  exact (nI_eqU (by have := h1.2.2 _ (List.getElem_mem hj1); omega) (by have := h2.2.2 _ (List.getElem_mem hj2); omega)).mp e

set_option maxRecDepth 100000 in
set_option maxHeartbeats 4000000 in
theorem d_J1_equals {l : Launch} (hl : l.stackTraces = false) {G : zG} {ws : va_W} {q1 q2 b1 b2 : Nat} {f1 f2 : Nat → Int32} {L1 L2 : List Nat} (hv1 : sV G ws q1 b1 L1.length f1) (hv2 : sV G ws q2 b2 L2.length f2) (h1 : tX f1 L1) (h2 : tX f2 L2) (n1 : L1.length < 2 ^ 20) (n2 : L2.length < 2 ^ 20) : rCR l G mJ1_equals_b5fdf 0 0 0 [.ref b1, .ref b2] ws (fun r ws' => r = some (zi (decide (L1 = L2)).toNat) ∧ ws' = ws) := by
  refine rCR.of hl (by decide) (by simp [Value.category]) (Nat.le_of_ble_eq_true rfl) (ls := [some (.ref b1), some (.ref b2), none]) rfl (fun X C hF => ?_)
  refine rw_aload_0 C dJ1_equals_b5fdf_0 ?_
  refine rs_len C hv1 dJ1_equals_b5fdf_1 ?_
  refine rw_aload_1 C dJ1_equals_b5fdf_2 ?_
  refine rs_len C hv2 dJ1_equals_b5fdf_3 ?_
  refine rn_icmp_ne C 34 (by omega) (by omega) dJ1_equals_b5fdf_4 (by decide) (fun c4 => ?_) (fun c4 => ?_)
  · refine rn_iconst C 0 (by decide) dJ1_equals_b5fdf_34 ?_
    exact rw_iret C rfl rfl hF dJ1_equals_b5fdf_35 (by decide) (by decide) ⟨by rw [decide_eq_false (fun h => c4 (by rw [h]))]; rfl, rfl⟩
  · have L9 : ∀ (k i : Nat), i + k = L1.length → (∀ j, j < i → f1 j = f2 j) → RW G X 0 0 9 [some (.ref b1), some (.ref b2), some (zi i)] [] ws := by
      intro k
      induction k with
      | zero =>
        intro i hi hk
        refine rw_iload_2 C dJ1_equals_b5fdf_9 ?_
        refine rw_aload_0 C dJ1_equals_b5fdf_10 ?_
        refine rs_len C hv1 dJ1_equals_b5fdf_11 ?_
        refine rn_icmp_ge C 32 (by omega) (by omega) dJ1_equals_b5fdf_12 (by decide) (fun c12 => ?_) (fun c12 => by omega)
        refine rn_iconst C 1 (by decide) dJ1_equals_b5fdf_32 ?_
        exact rw_iret C rfl rfl hF dJ1_equals_b5fdf_33 (by decide) (by decide) ⟨by rw [decide_eq_true (h1.eq_of h2 c4 (fun j hj => hk j (by omega)))]; rfl, rfl⟩
      | succ k ih =>
        intro i hi hk
        refine rw_iload_2 C dJ1_equals_b5fdf_9 ?_
        refine rw_aload_0 C dJ1_equals_b5fdf_10 ?_
        refine rs_len C hv1 dJ1_equals_b5fdf_11 ?_
        refine rn_icmp_ge C 32 (by omega) (by omega) dJ1_equals_b5fdf_12 (by decide) (fun c12 => by omega) (fun c12 => ?_)
        refine rw_aload_0 C dJ1_equals_b5fdf_15 ?_
        refine rw_iload_2 C dJ1_equals_b5fdf_16 ?_
        refine rs_bald C hv1 c12 (by omega) dJ1_equals_b5fdf_17 ?_
        refine rw_aload_1 C dJ1_equals_b5fdf_18 ?_
        refine rw_iload_2 C dJ1_equals_b5fdf_19 ?_
        refine rs_bald C hv2 (by omega) (by omega) dJ1_equals_b5fdf_20 ?_
        refine rw_icmp_eq C 26 dJ1_equals_b5fdf_21 (by decide) (fun c21 => ?_) (fun c21 => ?_)
        · refine rn_iinc_2 C rfl dJ1_equals_b5fdf_26 ?_
          refine rw_goto C 9 dJ1_equals_b5fdf_29 (by decide) ?_
          exact ih (i + 1) (by omega) (fun j hj => by
            by_cases e : j = i
            · rw [e]; exact c21
            · exact hk j (by omega))
        · refine rn_iconst C 0 (by decide) dJ1_equals_b5fdf_24 ?_
          exact rw_iret C rfl rfl hF dJ1_equals_b5fdf_25 (by decide) (by decide) ⟨by rw [decide_eq_false (fun h => by subst h; exact c21 (by rw [h1.1 i c12, h2.1 i c12]))]; rfl, rfl⟩
    refine rn_iconst C 0 (by decide) dJ1_equals_b5fdf_7 ?_
    refine rw_istore_2 C rfl dJ1_equals_b5fdf_8 ?_
    exact L9 _ 0 (Nat.zero_add _) (fun j hj => absurd hj (Nat.not_lt_zero j))

set_option maxRecDepth 100000 in
set_option maxHeartbeats 4000000 in
theorem d_J0_equals {l : Launch} (hl : l.stackTraces = false) {G : zG} {ws : va_W} {q1 q2 b1 b2 : Nat} {f1 f2 : Nat → Int32} {L1 L2 : List Nat} (hv1 : sV G ws q1 b1 L1.length f1) (hv2 : sV G ws q2 b2 L2.length f2) (h1 : tX f1 L1) (h2 : tX f2 L2) (n1 : L1.length < 2 ^ 20) (n2 : L2.length < 2 ^ 20) (hne : q1 ≠ q2) : rCR l G mJ0_equals_9ea2d 1 0 0 [.ref q1, .ref q2] ws (fun r ws' => r = some (zi (decide (L1 = L2)).toNat) ∧ ws' = ws) := by
  refine rCR.of hl (by decide) (by simp [Value.category]) (Nat.le_of_ble_eq_true rfl) (ls := [some (.ref q1), some (.ref q2), none]) rfl (fun X C hF => ?_)
  refine rw_aload_0 C dJ0_equals_9ea2d_0 ?_
  refine rw_aload_1 C dJ0_equals_9ea2d_1 ?_
  refine rw_acmp_ne C 7 dJ0_equals_9ea2d_2 (by decide) (fun _ => ?_) (fun h => absurd h hne)
  refine rw_aload_1 C dJ0_equals_9ea2d_7 ?_
  refine rs_inst C hv2 rfl dJ0_equals_9ea2d_8 ?_
  refine rn_if_eq C 54 (by decide) dJ0_equals_9ea2d_11 (by decide) (fun c11 => absurd c11 (by decide)) (fun _ => ?_)
  refine rw_aload_1 C dJ0_equals_9ea2d_14 ?_
  refine rs_cast C hv2 rfl dJ0_equals_9ea2d_15 ?_
  refine rw_astore_2 C rfl dJ0_equals_9ea2d_18 ?_
  refine rw_getCS C wStrS dJ0_equals_9ea2d_19 ?_
  refine rn_if_eq C 36 (by decide) dJ0_equals_9ea2d_22 (by decide) (fun c22 => absurd c22 (by decide)) (fun _ => ?_)
  refine rw_aload_0 C dJ0_equals_9ea2d_25 ?_
  refine rs_getC C hv1 rfl dJ0_equals_9ea2d_26 ?_
  refine rw_aload_2 C dJ0_equals_9ea2d_29 ?_
  refine rs_getC C hv2 rfl dJ0_equals_9ea2d_30 ?_
  refine rn_icmp_ne C 54 (by decide) (by decide) dJ0_equals_9ea2d_33 (by decide) (fun c33 => absurd rfl c33) (fun _ => ?_)
  refine rw_aload_0 C dJ0_equals_9ea2d_36 ?_
  refine rs_getV C hv1 rfl dJ0_equals_9ea2d_37 ?_
  refine rw_aload_2 C dJ0_equals_9ea2d_40 ?_
  refine rs_getV C hv2 rfl dJ0_equals_9ea2d_41 ?_
  refine rw_callS (as := [.ref b1, .ref b2]) C vJ1_equals_b5fdf lJ0_541 dJ0_equals_9ea2d_44 rfl (by simp) (d_J1_equals hl hv1 hv2 h1 h2 n1 n2) (by decide) (by decide) (by decide) (fun r ws2 hq => ?_)
  obtain ⟨rfl, rfl⟩ := hq
  by_cases h : L1 = L2
  · rw [show (decide (L1 = L2)).toNat = 1 by rw [decide_eq_true h]; rfl] at hF ⊢
    refine rn_if_eq C 54 (by decide) dJ0_equals_9ea2d_47 (by decide) (fun c47 => absurd c47 (by decide)) (fun _ => ?_)
    refine rn_iconst C 1 (by decide) dJ0_equals_9ea2d_50 ?_
    refine rw_goto C 55 dJ0_equals_9ea2d_51 (by decide) ?_
    exact rw_iret C rfl rfl hF dJ0_equals_9ea2d_55 (by decide) (by decide) ⟨rfl, rfl⟩
  · rw [show (decide (L1 = L2)).toNat = 0 by rw [decide_eq_false h]; rfl] at hF ⊢
    refine rn_if_eq C 54 (by decide) dJ0_equals_9ea2d_47 (by decide) (fun _ => ?_) (fun c47 => absurd rfl c47)
    refine rn_iconst C 0 (by decide) dJ0_equals_9ea2d_54 ?_
    exact rw_iret C rfl rfl hF dJ0_equals_9ea2d_55 (by decide) (by decide) ⟨rfl, rfl⟩

set_option maxRecDepth 100000 in
set_option maxHeartbeats 4000000 in
theorem d_J5_init16 {l : Launch} (hl : l.stackTraces = false) {G : zG} {w : va_W} {q : Nat} : rCR l G mJ5_init_d00df 0 1 16 [.ref q, zi 16] ((q, eB0) :: w) (fun r ws' => r = none ∧ ∃ b, ws' = (q, eSb b 0) :: (b, eBy G 16 (fun _ => 0)) :: w) := by
  refine rCR.of hl (by decide) (by simp [Value.category]) (Nat.le_of_ble_eq_true rfl) (ls := [some (.ref q), some (zi 16)]) rfl (fun X C hF => ?_)
  refine rw_aload_0 C dJ5_init_d00df_0 ?_
  refine rw_objInit C oIJ5 (by simp) dJ5_init_d00df_1 ?_
  refine rw_getCS C wSbCS dJ5_init_d00df_4 ?_
  refine rn_if_eq C 25 (by decide) dJ5_init_d00df_7 (by decide) (fun c7 => ?_) (fun c7 => ?_)
  · exact absurd c7 (by decide)
  · refine rw_aload_0 C dJ5_init_d00df_10 ?_
    refine rw_iload_1 C dJ5_init_d00df_11 ?_
    refine rw_newb C (n := 16) (by decide) (by decide) (by decide) dJ5_init_d00df_12 (fun b => ?_)
    refine RW.front ?_
    refine RW.part (Y := [(b, eBy G 16 (fun _ => 0)), (q, eB0)]) (cx := [(q, eB0), (b, eBy G 16 (fun _ => 0))]) (pl := w) [1, 0] rfl rfl ?_
    refine rp_put C (k := 0) (j := 0) fJ5_15 rfl rfl rfl rfl rfl (by decide) rfl dJ5_init_d00df_14 ?_
    refine rw_aload_0 C dJ5_init_d00df_17 ?_
    refine rn_iconst C 0 (by decide) dJ5_init_d00df_18 ?_
    refine rp_put C (k := 0) (j := 1) fJ5_22 rfl rfl rfl rfl rfl (by decide) rfl dJ5_init_d00df_19 ?_
    refine rw_goto C 38 dJ5_init_d00df_22 (by decide) ?_
    exact rw_vret C rfl hF dJ5_init_d00df_38 (by decide) (by decide) ⟨rfl, b, rfl⟩

set_option maxRecDepth 100000 in
set_option maxHeartbeats 4000000 in
theorem d_J4_init0 {l : Launch} (hl : l.stackTraces = false) {G : zG} {w : va_W} {q : Nat} : rCR l G mJ4_init_da8c8 1 1 16 [.ref q] ((q, eB0) :: w) (fun r ws' => r = none ∧ ∃ b, ws' = (q, eSb b 0) :: (b, eBy G 16 (fun _ => 0)) :: w) := by
  refine rCR.of hl (by decide) (by simp [Value.category]) (Nat.le_of_ble_eq_true rfl) (ls := [some (.ref q)]) rfl (fun X C hF => ?_)
  refine rw_aload_0 C dJ4_init_da8c8_0 ?_
  refine rn_bipush C 16 (by decide) dJ4_init_da8c8_1 ?_
  refine rw_callIr (as := [zi 16]) C vJ5_init_d00df rfl rfl lJ4_1 dJ4_init_da8c8_3 rfl (by simp) (d_J5_init16 hl) (by decide) (by decide) (by decide) (fun r ws2 hq => ?_)
  obtain ⟨rfl, b, rfl⟩ := hq
  exact rw_vret C rfl hF dJ4_init_da8c8_6 (by decide) (by decide) ⟨rfl, b, rfl⟩

theorem wSbBig : Cond.constant RJ5 38 (2147483631 : Int32) ∈ lw_tbl := (List.mem_of_getElem? (i := 1428) (by decide +kernel))
set_option maxRecDepth 100000 in
set_option maxHeartbeats 4000000 in
theorem d_J5_initS {l : Launch} (hl : l.stackTraces = false) {G : zG} {w : va_W} {q sq sb : Nat} {g : Nat → Int32} {L2 : List Nat} (hv : sV G w sq sb L2.length g) (hg : tX g L2) (hs : L2.length < 2 ^ 18) : rCR l G mJ5_init_a7421 7 1 (L2.length + 16) [.ref q, .ref sq] ((q, eB0) :: w) (fun r ws' => r = none ∧ ∃ b2 f2, ws' = (q, eSb b2 L2.length) :: (b2, eBy G (L2.length + 16) f2) :: w ∧ tX f2 L2) := by
  refine rCR.of hl (by decide) (by simp [Value.category]) (Nat.le_of_ble_eq_true rfl) (ls := [some (.ref q), some (.ref sq), none, none, none]) rfl (fun X C hF => ?_)
  have hv1 : sV G ((q, eB0) :: w) sq sb L2.length g := hv.sub (fun x h => List.mem_cons_of_mem _ h)
  have hcost : tCost (L2.length + 16) (([] : List Nat).length + L2.length) = 0 := by unfold tCost; rw [if_pos (by simp; omega)]
  have hcap : tCap (L2.length + 16) (([] : List Nat).length + L2.length) = L2.length + 16 := by unfold tCap; rw [if_pos (by simp; omega)]
  refine rw_aload_0 C dJ5_init_a7421_0 ?_
  refine rw_objInit C oIJ5 (by simp) dJ5_init_a7421_1 ?_
  refine rw_aload_1 C dJ5_init_a7421_4 ?_
  refine rs_call (as := []) C hv1 vJ0_length_8abf5 rfl lJ5_32 dJ5_init_a7421_5 rfl (by simp) (d_J0_length hl hv1 (by omega)) (by decide) (by decide) (by omega) (fun r ws2 hq => ?_)
  obtain ⟨rfl, rfl⟩ := hq
  refine rw_istore_2 C rfl dJ5_init_a7421_8 ?_
  refine rw_iload_2 C dJ5_init_a7421_9 ?_
  refine rn_ldc2 C 2147483631 (by decide) wSbBig dJ5_init_a7421_10 ?_
  refine rn_icmp_ge C 22 (by omega) (by omega) dJ5_init_a7421_12 (by decide) (fun c12 => ?_) (fun c12 => ?_)
  · omega
  · refine rw_iload_2 C dJ5_init_a7421_15 ?_
    refine rn_bipush C 16 (by decide) dJ5_init_a7421_16 ?_
    refine rn_iadd C dJ5_init_a7421_18 ?_
    refine rw_goto C 24 dJ5_init_a7421_19 (by decide) ?_
    refine rw_istore_3 C rfl dJ5_init_a7421_24 ?_
    refine rw_aload_1 C dJ5_init_a7421_25 ?_
    refine rs_call (as := []) C hv1 vJ0_coder_7d493 rfl lJ5_40 dJ5_init_a7421_26 rfl (by simp) (d_J0_coder hl hv1) (by decide) (by decide) (by omega) (fun r ws2 hq => ?_)
    obtain ⟨rfl, rfl⟩ := hq
    refine rw_istore_4 C rfl dJ5_init_a7421_29 ?_
    refine rw_aload_0 C dJ5_init_a7421_31 ?_
    refine rw_iload_4 C dJ5_init_a7421_32 ?_
    refine rp_put C (k := 0) (j := 1) fJ5_22 rfl rfl rfl rfl rfl (by decide) rfl dJ5_init_a7421_34 ?_
    refine rw_aload_0 C dJ5_init_a7421_37 ?_
    refine rw_iload_4 C dJ5_init_a7421_38 ?_
    refine rn_if_ne C 49 (by decide) dJ5_init_a7421_40 (by decide) (fun c40 => ?_) (fun c40 => ?_)
    · exact absurd rfl c40
    · refine rw_iload_3 C dJ5_init_a7421_43 ?_
      refine rw_newb C (n := L2.length + 16) (by omega) (by decide) (by omega) dJ5_init_a7421_44 (fun b => ?_)
      refine RW.front ?_
      refine RW.part (Y := [(b, eBy G (L2.length + 16) (fun _ => 0)), (q, eB0)]) (cx := [(q, eB0), (b, eBy G (L2.length + 16) (fun _ => 0))]) (pl := w) [1, 0] rfl rfl ?_
      refine rw_goto C 53 dJ5_init_a7421_46 (by decide) ?_
      refine rp_put C (k := 0) (j := 0) fJ5_15 rfl rfl rfl rfl rfl (by decide) rfl dJ5_init_a7421_53 ?_
      refine rw_aload_0 C dJ5_init_a7421_56 ?_
      refine rw_aload_1 C dJ5_init_a7421_57 ?_
      refine rw_callUx (as := [.ref sq]) C uJ5_append_cf1ce vJ4_append_cf1ce sApS kJ5_43 ⟨rfl, rfl⟩ (k0 := 0) rfl dJ5_init_a7421_58 rfl (by simp) (d_J4_appendSb hl (L := []) tX.nil (Nat.zero_le _) hv hg (by simp; omega)) (by decide) (by decide) (by rw [hcost]; omega) (fun r ws2 hq => ?_)
      obtain ⟨rfl, b2, f2, rfl, h2⟩ := hq
      rw [hcost, hcap]
      refine rw_pop C rfl dJ5_init_a7421_61 ?_
      exact rw_vret C rfl hF dJ5_init_a7421_62 (by omega) (by omega) ⟨rfl, b2, f2, rfl, h2⟩

set_option maxRecDepth 100000 in
set_option maxHeartbeats 4000000 in
theorem d_J4_initS {l : Launch} (hl : l.stackTraces = false) {G : zG} {w : va_W} {q sq sb : Nat} {g : Nat → Int32} {L2 : List Nat} (hv : sV G w sq sb L2.length g) (hg : tX g L2) (hs : L2.length < 2 ^ 18) : rCR l G mJ4_init_a7421 8 1 (L2.length + 16) [.ref q, .ref sq] ((q, eB0) :: w) (fun r ws' => r = none ∧ ∃ b2 f2, ws' = (q, eSb b2 L2.length) :: (b2, eBy G (L2.length + 16) f2) :: w ∧ tX f2 L2) := by
  refine rCR.of hl (by decide) (by simp [Value.category]) (Nat.le_of_ble_eq_true rfl) (ls := [some (.ref q), some (.ref sq)]) rfl (fun X C hF => ?_)
  refine rw_aload_0 C dJ4_init_a7421_0 ?_
  refine rw_aload_1 C dJ4_init_a7421_1 ?_
  refine rw_callIr (as := [.ref sq]) C vJ5_init_a7421 rfl rfl lJ4_7 dJ4_init_a7421_2 rfl (by simp) (d_J5_initS hl hv hg hs) (by decide) (by decide) (by omega) (fun r ws2 hq => ?_)
  obtain ⟨rfl, b2, f2, rfl, h2⟩ := hq
  exact rw_vret C rfl hF dJ4_init_a7421_5 (by omega) (by omega) ⟨rfl, b2, f2, rfl, h2⟩

