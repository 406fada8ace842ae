/-! the model's words -/
def wA (w : Nat) : Nat := [0, 4, 9, 13, 19, 25, 30, 37, 42, 47].getD w 0
def wW (k : Nat) : Nat := [101, 97, 114, 32, 108, 105, 110, 107, 32, 99, 117, 116, 32, 115, 116, 97, 114, 116, 32, 99, 104, 101, 99, 107, 32, 100, 101, 110, 121, 32, 97, 110, 115, 119, 101, 114, 32, 109, 111, 118, 101, 32, 114, 111, 117, 110, 100].getD k 0
def mWds (S : zS) : Prop := (∀ k, k < 47 → S 21 k = wW k) ∧ (∀ k, k < 10 → S 22 k = wA k)
theorem wA_le0 : ∀ w : Fin 9, wA (w.val + 1) ≤ 47 ∧ wA (w.val + 1) ≤ wA w.val + 7 ∧ wA w.val ≤ 47 := by decide
theorem wA_le {w : Nat} (h : w < 9) : wA (w + 1) ≤ 47 ∧ wA (w + 1) ≤ wA w + 7 ∧ wA w ≤ 47 := wA_le0 ⟨w, h⟩
theorem wW_lt0 : ∀ k : Fin 47, wW k.val < 128 := by decide
theorem wW_lt {k : Nat} (h : k < 47) : wW k < 128 := wW_lt0 ⟨k, h⟩
/-- word w agrees with the text on its first n letters -/
def wM (sg : Nat → Nat) (p w : Nat) : Nat → Bool
  | 0 => true
  | n + 1 => wM sg p w n && (decide (wA w + n < wA (w + 1)) && decide (wW (wA w + n) = sg (p + n)))
def wAny (sg : Nat → Nat) (p n : Nat) : Nat := zIt (fun w m => m ||| (wM sg p w n).toNat) 9 0
def wIs (sg : Nat → Nat) (p n : Nat) : Nat := zIt (fun w s => if wM sg p w n = true ∧ wA w + n = wA (w + 1) then w else s) 9 4294967295
/-- the word read: which, place, wrong, and how many letters were tried -/
def mWd (sg : Nat → Nat) (p : Nat) : Nat → Nat → Nat × Nat × Nat × Nat
  | 0, n => (4294967295, p + n, 1, n)
  | k + 1, n => if wAny sg p (n + 1) = 0 then (4294967295, p + n, 1, n + 1) else if wIs sg p (n + 1) < 2 ^ 31 then (wIs sg p (n + 1), p + n + 1, 0, n + 1) else mWd sg p k (n + 1)
theorem wAny_le {sg : Nat → Nat} {p n : Nat} {i : Nat} : zIt (fun w m => m ||| (wM sg p w n).toNat) i 0 ≤ 1 :=
  zIt_inv (fun m => m ≤ 1) (by decide) (fun w m _ hm => by
    try dsimp only
    have h1 : (wM sg p w n).toNat < 2 := Bool.toNat_lt _
    have := Nat.or_lt_two_pow (n := 1) (show m < 2 ^ 1 by omega) h1
    omega)
theorem wAny_8 {sg : Nat → Nat} {p : Nat} : wAny sg p 8 = 0 :=
  zIt_inv (fun m => m = 0) rfl (fun w m hw hm => by
    try dsimp only
    have h1 : wM sg p w 8 = false := by
      rw [wM, decide_eq_false (by have := (wA_le hw).2; omega)]; simp
    rw [hm, h1]; rfl)
theorem wIs_lt {sg : Nat → Nat} {p n i : Nat} (hi : i ≤ 9) : zIt (fun w s => if wM sg p w n = true ∧ wA w + n = wA (w + 1) then w else s) i 4294967295 < 9 ∨ zIt (fun w s => if wM sg p w n = true ∧ wA w + n = wA (w + 1) then w else s) i 4294967295 = 4294967295 :=
  zIt_inv (fun s => s < 9 ∨ s = 4294967295) (Or.inr rfl) (fun w s hw hs => by
    try dsimp only
    split
    · left; omega
    · exact hs)
theorem wOr0 {m : Nat} {b : Bool} : m ||| b.toNat = 0 ↔ m = 0 ∧ b = false := by
  constructor
  · intro h
    have h1 : m = 0 := Nat.eq_zero_of_le_zero (h ▸ Nat.left_le_or)
    have h2 : b.toNat = 0 := Nat.eq_zero_of_le_zero (h ▸ Nat.right_le_or)
    exact ⟨h1, by cases b <;> simp_all⟩
  · rintro ⟨rfl, rfl⟩; rfl
theorem wAny0 {sg : Nat → Nat} {p n : Nat} : ∀ i, zIt (fun w m => m ||| (wM sg p w n).toNat) i 0 = 0 → ∀ w, w < i → wM sg p w n = false := by
  intro i
  induction i with
  | zero => intro _ w hw; omega
  | succ i ih =>
    intro h w hw
    rw [zIt] at h
    have h2 := wOr0.mp h
    by_cases e : w = i
    · subst e; exact h2.2
    · exact ih h2.1 w (by omega)
theorem wIs0 {sg : Nat → Nat} {p n : Nat} (h : wAny sg p n = 0) : wIs sg p n = 4294967295 :=
  zIt_inv (fun s => s = 4294967295) rfl (fun w s hw hs => by
    try dsimp only
    rw [wAny0 9 h w hw]
    simpa using hs)
def mWL (sg : Nat → Nat) (p n : Nat) : Nat → Nat := fun w => (wM sg p w n).toNat
theorem wAnd1 {b : Bool} : b.toNat &&& 1 = b.toNat := by cases b <;> rfl

set_option maxRecDepth 100000 in
set_option maxHeartbeats 4000000 in
theorem c_X6_word {l : Launch} (hl : l.stackTraces = false) {G : zG} {S : zS} {J : Int64} {E : UInt64} (htx : mTx S) (hW : mWds S) {h : Nat} (hh : h ≤ S 12 17) {L : Nat → Nat} : nCR l G mX6_word 1 0 0 [.ref 12] (mRd S h 0 L) J E (some (zi (mWd (mS S) h 8 0).1)) (mRd S (mWd (mS S) h 8 0).2.1 (mWd (mS S) h 8 0).2.2.1 (mWL (mS S) h (mWd (mS S) h 8 0).2.2.2)) J E := by
  refine nCR.of hl (by decide) rfl (Nat.le_of_ble_eq_true rfl) (ls := [some (.ref 12), none, none, none, none]) rfl (fun X C hF hX => ?_)
  subst hX
  refine sn_iconst C 0 (by decide) dX6_word_0 ?_
  refine sw_istore_1 C rfl dX6_word_1 ?_
  have L2 : ∀ (kM i : Nat) (L1 : Nat → Nat), i ≤ 9 → ((∀ b, b < i → L1 b = 1)) → 9 - i < kM → SN G X 0 0 2 [some (.ref 12), some (zi i), none, none, none] [] (mRd S h 0 L1) J E := by
    intro kM
    induction kM with
    | zero => intro i L1 _ _ hkM; exact absurd hkM (by omega)
    | succ kM ih2 =>
      intro i L1 hi hL hkM
      refine sw_iload_1 C dX6_word_2 ?_
      refine sn_bipush C 9 (by decide) dX6_word_3 ?_
      refine sn_icmp_ge C 21 (by omega) (by omega) dX6_word_5 (by decide) (fun c5 => ?_) (fun c5 => ?_)
      · refine sn_iconst C 0 (by decide) dX6_word_21 ?_
        refine sw_istore_1 C rfl dX6_word_22 ?_
        refine sn_iconst C 4294967295 (by decide) dX6_word_23 ?_
        refine sw_istore_2 C rfl dX6_word_24 ?_
        have L25 : ∀ (kM n : Nat) (is : Nat) (h1 : Nat) (w1 : Nat) (L1 : Nat → Nat) (u3 : Option Value) (u4 : Option Value), n ≤ 8 → ((h1 = h + n ∧ w1 = 0 ∧ is = 4294967295 ∧ n ≤ 7 ∧ (∀ b, b < 9 → L1 b = (wM (mS S) h b n).toNat) ∧ h + n ≤ S 12 17 ∧ mWd (mS S) h (8 - n) n = mWd (mS S) h 8 0) ∨ ((w1 = 1 ∨ is < 2 ^ 31) ∧ is < 2 ^ 32 ∧ w1 ≤ 1 ∧ (∀ b, b < 9 → L1 b = (wM (mS S) h b n).toNat) ∧ mWd (mS S) h 8 0 = (is, h1, w1, n))) → 8 - n < kM → SN G X 0 0 25 [some (.ref 12), some (zi n), some (zi is), u3, u4] [] (mRd S h1 w1 L1) J E := by
          intro kM
          induction kM with
          | zero => intro n is h1 w1 L1 u3 u4 _ _ hkM; exact absurd hkM (by omega)
          | succ kM ih25 =>
            intro n is h1 w1 L1 u3 u4 hn hd hkM
            have his : is < 2 ^ 32 := hd.elim (fun h => by omega) (fun h => h.2.1)
            have hw1 : w1 ≤ 1 := hd.elim (fun h => by omega) (fun h => h.2.2.1)
            refine sw_iload_2 C dX6_word_25 ?_
            refine sn_if_ge C 222 his dX6_word_26 (by decide) (fun c26 => ?_) (fun c26 => ?_)
            · refine sw_iload_2 C dX6_word_222 ?_
              exact sn_iret C rfl hF dX6_word_223 (by decide) (by decide) (by
                  rcases hd with hd | hd
                  · exfalso; omega
                  · rw [hd.2.2.2.2]) (by
                  rcases hd with hd | hd
                  · exfalso; omega
                  · rw [hd.2.2.2.2]; exact mRd_congr hd.2.2.2.1) rfl rfl
            · refine sw_aload_0 C dX6_word_29 ?_
              refine sn_getIe C (w1) rfl fX6_185 rfl (by decide) rfl dX6_word_30 ?_
              refine sn_if_ne C 222 (by omega) dX6_word_33 (by decide) (fun c33 => ?_) (fun c33 => ?_)
              · refine sw_iload_2 C dX6_word_222 ?_
                exact sn_iret C rfl hF dX6_word_223 (by decide) (by decide) (by
                    rcases hd with hd | hd
                    · exfalso; omega
                    · rw [hd.2.2.2.2]) (by
                    rcases hd with hd | hd
                    · exfalso; omega
                    · rw [hd.2.2.2.2]; exact mRd_congr hd.2.2.2.1) rfl rfl
              · obtain ⟨e1, e2, e3, hn7, hL1, hhn, hfu⟩ : (h1 = h + n ∧ w1 = 0 ∧ is = 4294967295 ∧ n ≤ 7 ∧ (∀ b, b < 9 → L1 b = (wM (mS S) h b n).toNat) ∧ h + n ≤ S 12 17 ∧ mWd (mS S) h (8 - n) n = mWd (mS S) h 8 0) := by
                  rcases hd with hd | hd
                  · exact hd
                  · exfalso; omega
                subst e1; subst e2; subst e3
                refine sn_iconst C 0 (by decide) dX6_word_36 ?_
                refine sw_istore_3 C rfl dX6_word_37 ?_
                refine sn_iconst C 0 (by decide) dX6_word_38 ?_
                refine sw_istore_4 C rfl dX6_word_39 ?_
                have L41 : ∀ (kM j : Nat) (m : Nat) (L2 : Nat → Nat), j ≤ 9 → (m = zIt (fun w m => m ||| (wM (mS S) h w (n + 1)).toNat) j 0) → ((∀ b, b < 9 → L2 b = if b < j then (wM (mS S) h b (n + 1)).toNat else (wM (mS S) h b n).toNat)) → 9 - j < kM → SN G X 0 0 41 [some (.ref 12), some (zi n), some (zi 4294967295), some (zi m), some (zi j)] [] (mRd S (h + n) 0 L2) J E := by
                  intro kM
                  induction kM with
                  | zero => intro j m L2 _ _ _ hkM; exact absurd hkM (by omega)
                  | succ kM ih41 =>
                    intro j m L2 hj hm hL2 hkM
                    have hm1 : m ≤ 1 := by rw [hm]; exact wAny_le
                    refine sw_iload_4 C dX6_word_41 ?_
                    refine sn_bipush C 9 (by decide) dX6_word_43 ?_
                    refine sn_icmp_ge C 130 (by omega) (by omega) dX6_word_45 (by decide) (fun c45 => ?_) (fun c45 => ?_)
                    · have hma : m = wAny (mS S) h (n + 1) := by rw [hm, show j = 9 from by omega]; rfl
                      have hLf : ∀ b, b < 9 → L2 b = (wM (mS S) h b (n + 1)).toNat := fun b hb => by rw [hL2 b hb, if_pos (by omega)]
                      refine sw_aload_0 C dX6_word_130 ?_
                      refine sw_iload_3 C dX6_word_131 ?_
                      refine sn_if_ne C 139 (by omega) dX6_word_132 (by decide) (fun c132 => ?_) (fun c132 => ?_)
                      · refine sn_iconst C 0 (by decide) dX6_word_139 ?_
                        refine sn_putZN C (by decide) fX6_185 rfl (by decide) rfl rfl dX6_word_140 ?_
                        rw [mRd_19]
                        refine sw_aload_0 C dX6_word_143 ?_
                        refine sw_dup C rfl dX6_word_144 ?_
                        refine sn_getIe C (h + n) rfl fX6_179 rfl (by decide) rfl dX6_word_145 ?_
                        refine sw_iload_3 C dX6_word_148 ?_
                        refine sn_if_eq C 156 (by omega) dX6_word_149 (by decide) (fun c149 => ?_) (fun c149 => ?_)
                        · refine sn_iconst C 0 (by decide) dX6_word_156 ?_
                          refine sn_iadd C dX6_word_157 ?_
                          refine sn_putI C fX6_179 rfl (by decide) rfl rfl dX6_word_158 ?_
                          rw [mRd_16]
                          refine sn_iinc_1 C rfl dX6_word_161 ?_
                          refine sn_iconst C 0 (by decide) dX6_word_164 ?_
                          refine sw_istore_4 C rfl dX6_word_165 ?_
                          have L167 : ∀ (kM j : Nat) (s : Nat) (h1 : Nat) (w1 : Nat), j ≤ 9 → ((m = 0 ∧ h1 = h + n + 0 ∧ w1 = 1) ∨ (m = 1 ∧ h1 = h + n + 1 ∧ w1 = 0)) → (s = zIt (fun w s => if wM (mS S) h w (n + 1) = true ∧ wA w + (n + 1) = wA (w + 1) then w else s) j 4294967295) → 9 - j < kM → SN G X 0 0 167 [some (.ref 12), some (zi (n + 1)), some (zi s), some (zi m), some (zi j)] [] (mRd S h1 w1 L2) J E := by
                            intro kM
                            induction kM with
                            | zero => intro j s h1 w1 _ _ _ hkM; exact absurd hkM (by omega)
                            | succ kM ih167 =>
                              intro j s h1 w1 hj hhw hs hkM
                              have hs9 := wIs_lt (sg := mS S) (p := h) (n := n + 1) hj
                              rw [← hs] at hs9
                              refine sw_iload_4 C dX6_word_167 ?_
                              refine sn_bipush C 9 (by decide) dX6_word_169 ?_
                              refine sn_icmp_ge C 219 (by omega) (by omega) dX6_word_171 (by decide) (fun c171 => ?_) (fun c171 => ?_)
                              · have hse : s = wIs (mS S) h (n + 1) := by rw [hs, show j = 9 from by omega]; rfl
                                have hd2 : (h1 = h + (n + 1) ∧ w1 = 0 ∧ s = 4294967295 ∧ n + 1 ≤ 7 ∧ (∀ b, b < 9 → L2 b = (wM (mS S) h b (n + 1)).toNat) ∧ h + (n + 1) ≤ S 12 17 ∧ mWd (mS S) h (8 - (n + 1)) (n + 1) = mWd (mS S) h 8 0) ∨ ((w1 = 1 ∨ s < 2 ^ 31) ∧ s < 2 ^ 32 ∧ w1 ≤ 1 ∧ (∀ b, b < 9 → L2 b = (wM (mS S) h b (n + 1)).toNat) ∧ mWd (mS S) h 8 0 = (s, h1, w1, n + 1)) := by
                                  rw [show 8 - n = 8 - (n + 1) + 1 from by omega, mWd, ← hma, ← hse] at hfu
                                  rcases hhw with ⟨e1, e2, e3⟩ | ⟨e1, e2, e3⟩
                                  · rw [if_pos e1] at hfu
                                    have e4 : s = 4294967295 := by rw [hse]; exact wIs0 (hma ▸ e1)
                                    refine Or.inr ⟨Or.inl e3, by omega, by omega, hLf, ?_⟩
                                    rw [← hfu, e2, e3, e4]; rfl
                                  · rw [if_neg (by omega)] at hfu
                                    by_cases h9 : s < 2 ^ 31
                                    · rw [if_pos h9] at hfu
                                      exact Or.inr ⟨Or.inr h9, by omega, by omega, hLf, by rw [← hfu, e2, e3]⟩
                                    · rw [if_neg h9] at hfu
                                      have hn8 : n + 1 ≤ 7 := by
                                        apply Classical.byContradiction
                                        intro hcon
                                        have e8 : n + 1 = 8 := by omega
                                        rw [e8, wAny_8] at hma; omega
                                      have hlt : h + n < S 12 17 := by
                                        apply Classical.byContradiction
                                        intro hcon
                                        have e9 : mS S (h + n) = 4294967295 := by unfold mS; rw [if_neg (by omega)]
                                        have e10 : wAny (mS S) h (n + 1) = 0 := zIt_inv (fun m => m = 0) rfl (fun w m hw hm => by
                                          try dsimp only
                                          have h1 : wM (mS S) h w (n + 1) = false := by
                                            rw [wM, e9]
                                            by_cases h47 : wA w + n < wA (w + 1)
                                            · have := wW_lt (show wA w + n < 47 by have := (wA_le hw).1; omega)
                                              rw [decide_eq_false (show ¬ wW (wA w + n) = 4294967295 by omega)]; simp
                                            · rw [decide_eq_false h47]; simp
                                          rw [hm, h1]; rfl)
                                        omega
                                      exact Or.inl ⟨by omega, e3, by omega, hn8, hLf, by omega, hfu⟩
                                refine sw_goto C 25 dX6_word_219 (by decide) ?_
                                exact ih25 (n + 1) _ _ _ _ _ _ (by omega) hd2 (by omega)
                              · refine sw_aload_0 C dX6_word_174 ?_
                                refine sw_getR C (o' := 20) fX6_38 rfl (by decide) rfl rfl (by decide) dX6_word_175 ?_
                                refine sw_iload_4 C dX6_word_178 ?_
                                refine sn_ialde C (L2 j) (by unfold mRd; rw [if_neg (by omega), if_neg (by omega), if_pos ⟨rfl, by omega⟩]) rfl (by decide) (by omega) (by decide) dX6_word_180 ?_
                                refine sn_iconst C 1 (by decide) dX6_word_181 ?_
                                refine sn_icmp_ne C 211 (by rw [hLf j (by omega)]; have := Bool.toNat_lt (wM (mS S) h j (n + 1)); omega) (by decide) dX6_word_182 (by decide) (fun c182 => ?_) (fun c182 => ?_)
                                · have hb1 : ¬ wM (mS S) h j (n + 1) = true := fun hc => by rw [hLf j (by omega), hc] at c182; exact c182 rfl
                                  refine sw_iload_2 C dX6_word_211 ?_
                                  refine sw_istore_2 C rfl dX6_word_212 ?_
                                  refine sn_iinc_4 C rfl dX6_word_213 ?_
                                  refine sw_goto C 167 dX6_word_216 (by decide) ?_
                                  exact ih167 (j + 1) _ _ _ (by omega) hhw (by rw [zIt, ← hs]; first | (rw [if_pos ⟨hb1, c203⟩]; done) | (rw [if_neg (fun hc => c203 hc.2)]; done) | (rw [if_neg (fun hc => hb1 hc.1)]; done)) (by omega)
                                · have hb1 : wM (mS S) h j (n + 1) = true := by
                                    rw [hLf j (by omega)] at c182
                                    cases hc : wM (mS S) h j (n + 1) with
                                    | true => rfl
                                    | false => rw [hc] at c182; exact absurd c182 (by decide)
                                  refine sw_aload_0 C dX6_word_185 ?_
                                  refine sw_getR C (o' := 22) fX6_44 rfl (by decide) rfl rfl (by decide) dX6_word_186 ?_
                                  refine sw_iload_4 C dX6_word_189 ?_
                                  refine sn_ialde C (wA j) ((mRd_at (by decide) (by decide)).trans (hW.2 j (by omega))) rfl (by decide) (by omega) (by decide) dX6_word_191 ?_
                                  refine sw_iload_1 C dX6_word_192 ?_
                                  refine sn_iadd C dX6_word_193 ?_
                                  refine sw_aload_0 C dX6_word_194 ?_
                                  refine sw_getR C (o' := 22) fX6_44 rfl (by decide) rfl rfl (by decide) dX6_word_195 ?_
                                  refine sw_iload_4 C dX6_word_198 ?_
                                  refine sn_iconst C 1 (by decide) dX6_word_200 ?_
                                  refine sn_iadd C dX6_word_201 ?_
                                  refine sn_ialde C (wA (j + 1)) ((mRd_at (by decide) (by decide)).trans (hW.2 (j + 1) (by omega))) rfl (by decide) (by omega) (by decide) dX6_word_202 ?_
                                  refine sn_icmp_ne C 211 (by have := wA_le (show j < 9 by omega); omega) (by have := wA_le (show j < 9 by omega); omega) dX6_word_203 (by decide) (fun c203 => ?_) (fun c203 => ?_)
                                  · refine sw_iload_2 C dX6_word_211 ?_
                                    refine sw_istore_2 C rfl dX6_word_212 ?_
                                    refine sn_iinc_4 C rfl dX6_word_213 ?_
                                    refine sw_goto C 167 dX6_word_216 (by decide) ?_
                                    exact ih167 (j + 1) _ _ _ (by omega) hhw (by rw [zIt, ← hs]; first | (rw [if_pos ⟨hb1, c203⟩]; done) | (rw [if_neg (fun hc => c203 hc.2)]; done) | (rw [if_neg (fun hc => hb1 hc.1)]; done)) (by omega)
                                  · refine sw_iload_4 C dX6_word_206 ?_
                                    refine sw_goto C 212 dX6_word_208 (by decide) ?_
                                    refine sw_istore_2 C rfl dX6_word_212 ?_
                                    refine sn_iinc_4 C rfl dX6_word_213 ?_
                                    refine sw_goto C 167 dX6_word_216 (by decide) ?_
                                    exact ih167 (j + 1) _ _ _ (by omega) hhw (by rw [zIt, ← hs]; first | (rw [if_pos ⟨hb1, c203⟩]; done) | (rw [if_neg (fun hc => c203 hc.2)]; done) | (rw [if_neg (fun hc => hb1 hc.1)]; done)) (by omega)
                          exact L167 _ 0 _ _ _ (by omega) (by first | exact Or.inl ⟨by omega, rfl, rfl⟩ | exact Or.inr ⟨by omega, rfl, rfl⟩ | (exfalso; omega)) rfl (Nat.lt_succ_self _)
                        · refine sn_iconst C 1 (by decide) dX6_word_152 ?_
                          refine sw_goto C 157 dX6_word_153 (by decide) ?_
                          refine sn_iadd C dX6_word_157 ?_
                          refine sn_putI C fX6_179 rfl (by decide) rfl rfl dX6_word_158 ?_
                          rw [mRd_16]
                          refine sn_iinc_1 C rfl dX6_word_161 ?_
                          refine sn_iconst C 0 (by decide) dX6_word_164 ?_
                          refine sw_istore_4 C rfl dX6_word_165 ?_
                          have L167 : ∀ (kM j : Nat) (s : Nat) (h1 : Nat) (w1 : Nat), j ≤ 9 → ((m = 0 ∧ h1 = h + n + 0 ∧ w1 = 1) ∨ (m = 1 ∧ h1 = h + n + 1 ∧ w1 = 0)) → (s = zIt (fun w s => if wM (mS S) h w (n + 1) = true ∧ wA w + (n + 1) = wA (w + 1) then w else s) j 4294967295) → 9 - j < kM → SN G X 0 0 167 [some (.ref 12), some (zi (n + 1)), some (zi s), some (zi m), some (zi j)] [] (mRd S h1 w1 L2) J E := by
                            intro kM
                            induction kM with
                            | zero => intro j s h1 w1 _ _ _ hkM; exact absurd hkM (by omega)
                            | succ kM ih167 =>
                              intro j s h1 w1 hj hhw hs hkM
                              have hs9 := wIs_lt (sg := mS S) (p := h) (n := n + 1) hj
                              rw [← hs] at hs9
                              refine sw_iload_4 C dX6_word_167 ?_
                              refine sn_bipush C 9 (by decide) dX6_word_169 ?_
                              refine sn_icmp_ge C 219 (by omega) (by omega) dX6_word_171 (by decide) (fun c171 => ?_) (fun c171 => ?_)
                              · have hse : s = wIs (mS S) h (n + 1) := by rw [hs, show j = 9 from by omega]; rfl
                                have hd2 : (h1 = h + (n + 1) ∧ w1 = 0 ∧ s = 4294967295 ∧ n + 1 ≤ 7 ∧ (∀ b, b < 9 → L2 b = (wM (mS S) h b (n + 1)).toNat) ∧ h + (n + 1) ≤ S 12 17 ∧ mWd (mS S) h (8 - (n + 1)) (n + 1) = mWd (mS S) h 8 0) ∨ ((w1 = 1 ∨ s < 2 ^ 31) ∧ s < 2 ^ 32 ∧ w1 ≤ 1 ∧ (∀ b, b < 9 → L2 b = (wM (mS S) h b (n + 1)).toNat) ∧ mWd (mS S) h 8 0 = (s, h1, w1, n + 1)) := by
                                  rw [show 8 - n = 8 - (n + 1) + 1 from by omega, mWd, ← hma, ← hse] at hfu
                                  rcases hhw with ⟨e1, e2, e3⟩ | ⟨e1, e2, e3⟩
                                  · rw [if_pos e1] at hfu
                                    have e4 : s = 4294967295 := by rw [hse]; exact wIs0 (hma ▸ e1)
                                    refine Or.inr ⟨Or.inl e3, by omega, by omega, hLf, ?_⟩
                                    rw [← hfu, e2, e3, e4]; rfl
                                  · rw [if_neg (by omega)] at hfu
                                    by_cases h9 : s < 2 ^ 31
                                    · rw [if_pos h9] at hfu
                                      exact Or.inr ⟨Or.inr h9, by omega, by omega, hLf, by rw [← hfu, e2, e3]⟩
                                    · rw [if_neg h9] at hfu
                                      have hn8 : n + 1 ≤ 7 := by
                                        apply Classical.byContradiction
                                        intro hcon
                                        have e8 : n + 1 = 8 := by omega
                                        rw [e8, wAny_8] at hma; omega
                                      have hlt : h + n < S 12 17 := by
                                        apply Classical.byContradiction
                                        intro hcon
                                        have e9 : mS S (h + n) = 4294967295 := by unfold mS; rw [if_neg (by omega)]
                                        have e10 : wAny (mS S) h (n + 1) = 0 := zIt_inv (fun m => m = 0) rfl (fun w m hw hm => by
                                          try dsimp only
                                          have h1 : wM (mS S) h w (n + 1) = false := by
                                            rw [wM, e9]
                                            by_cases h47 : wA w + n < wA (w + 1)
                                            · have := wW_lt (show wA w + n < 47 by have := (wA_le hw).1; omega)
                                              rw [decide_eq_false (show ¬ wW (wA w + n) = 4294967295 by omega)]; simp
                                            · rw [decide_eq_false h47]; simp
                                          rw [hm, h1]; rfl)
                                        omega
                                      exact Or.inl ⟨by omega, e3, by omega, hn8, hLf, by omega, hfu⟩
                                refine sw_goto C 25 dX6_word_219 (by decide) ?_
                                exact ih25 (n + 1) _ _ _ _ _ _ (by omega) hd2 (by omega)
                              · refine sw_aload_0 C dX6_word_174 ?_
                                refine sw_getR C (o' := 20) fX6_38 rfl (by decide) rfl rfl (by decide) dX6_word_175 ?_
                                refine sw_iload_4 C dX6_word_178 ?_
                                refine sn_ialde C (L2 j) (by unfold mRd; rw [if_neg (by omega), if_neg (by omega), if_pos ⟨rfl, by omega⟩]) rfl (by decide) (by omega) (by decide) dX6_word_180 ?_
                                refine sn_iconst C 1 (by decide) dX6_word_181 ?_
                                refine sn_icmp_ne C 211 (by rw [hLf j (by omega)]; have := Bool.toNat_lt (wM (mS S) h j (n + 1)); omega) (by decide) dX6_word_182 (by decide) (fun c182 => ?_) (fun c182 => ?_)
                                · have hb1 : ¬ wM (mS S) h j (n + 1) = true := fun hc => by rw [hLf j (by omega), hc] at c182; exact c182 rfl
                                  refine sw_iload_2 C dX6_word_211 ?_
                                  refine sw_istore_2 C rfl dX6_word_212 ?_
                                  refine sn_iinc_4 C rfl dX6_word_213 ?_
                                  refine sw_goto C 167 dX6_word_216 (by decide) ?_
                                  exact ih167 (j + 1) _ _ _ (by omega) hhw (by rw [zIt, ← hs]; first | (rw [if_pos ⟨hb1, c203⟩]; done) | (rw [if_neg (fun hc => c203 hc.2)]; done) | (rw [if_neg (fun hc => hb1 hc.1)]; done)) (by omega)
                                · have hb1 : wM (mS S) h j (n + 1) = true := by
                                    rw [hLf j (by omega)] at c182
                                    cases hc : wM (mS S) h j (n + 1) with
                                    | true => rfl
                                    | false => rw [hc] at c182; exact absurd c182 (by decide)
                                  refine sw_aload_0 C dX6_word_185 ?_
                                  refine sw_getR C (o' := 22) fX6_44 rfl (by decide) rfl rfl (by decide) dX6_word_186 ?_
                                  refine sw_iload_4 C dX6_word_189 ?_
                                  refine sn_ialde C (wA j) ((mRd_at (by decide) (by decide)).trans (hW.2 j (by omega))) rfl (by decide) (by omega) (by decide) dX6_word_191 ?_
                                  refine sw_iload_1 C dX6_word_192 ?_
                                  refine sn_iadd C dX6_word_193 ?_
                                  refine sw_aload_0 C dX6_word_194 ?_
                                  refine sw_getR C (o' := 22) fX6_44 rfl (by decide) rfl rfl (by decide) dX6_word_195 ?_
                                  refine sw_iload_4 C dX6_word_198 ?_
                                  refine sn_iconst C 1 (by decide) dX6_word_200 ?_
                                  refine sn_iadd C dX6_word_201 ?_
                                  refine sn_ialde C (wA (j + 1)) ((mRd_at (by decide) (by decide)).trans (hW.2 (j + 1) (by omega))) rfl (by decide) (by omega) (by decide) dX6_word_202 ?_
                                  refine sn_icmp_ne C 211 (by have := wA_le (show j < 9 by omega); omega) (by have := wA_le (show j < 9 by omega); omega) dX6_word_203 (by decide) (fun c203 => ?_) (fun c203 => ?_)
                                  · refine sw_iload_2 C dX6_word_211 ?_
                                    refine sw_istore_2 C rfl dX6_word_212 ?_
                                    refine sn_iinc_4 C rfl dX6_word_213 ?_
                                    refine sw_goto C 167 dX6_word_216 (by decide) ?_
                                    exact ih167 (j + 1) _ _ _ (by omega) hhw (by rw [zIt, ← hs]; first | (rw [if_pos ⟨hb1, c203⟩]; done) | (rw [if_neg (fun hc => c203 hc.2)]; done) | (rw [if_neg (fun hc => hb1 hc.1)]; done)) (by omega)
                                  · refine sw_iload_4 C dX6_word_206 ?_
                                    refine sw_goto C 212 dX6_word_208 (by decide) ?_
                                    refine sw_istore_2 C rfl dX6_word_212 ?_
                                    refine sn_iinc_4 C rfl dX6_word_213 ?_
                                    refine sw_goto C 167 dX6_word_216 (by decide) ?_
                                    exact ih167 (j + 1) _ _ _ (by omega) hhw (by rw [zIt, ← hs]; first | (rw [if_pos ⟨hb1, c203⟩]; done) | (rw [if_neg (fun hc => c203 hc.2)]; done) | (rw [if_neg (fun hc => hb1 hc.1)]; done)) (by omega)
                          exact L167 _ 0 _ _ _ (by omega) (by first | exact Or.inl ⟨by omega, rfl, rfl⟩ | exact Or.inr ⟨by omega, rfl, rfl⟩ | (exfalso; omega)) rfl (Nat.lt_succ_self _)
                      · refine sn_iconst C 1 (by decide) dX6_word_135 ?_
                        refine sw_goto C 140 dX6_word_136 (by decide) ?_
                        refine sn_putZN C (by decide) fX6_185 rfl (by decide) rfl rfl dX6_word_140 ?_
                        rw [mRd_19]
                        refine sw_aload_0 C dX6_word_143 ?_
                        refine sw_dup C rfl dX6_word_144 ?_
                        refine sn_getIe C (h + n) rfl fX6_179 rfl (by decide) rfl dX6_word_145 ?_
                        refine sw_iload_3 C dX6_word_148 ?_
                        refine sn_if_eq C 156 (by omega) dX6_word_149 (by decide) (fun c149 => ?_) (fun c149 => ?_)
                        · refine sn_iconst C 0 (by decide) dX6_word_156 ?_
                          refine sn_iadd C dX6_word_157 ?_
                          refine sn_putI C fX6_179 rfl (by decide) rfl rfl dX6_word_158 ?_
                          rw [mRd_16]
                          refine sn_iinc_1 C rfl dX6_word_161 ?_
                          refine sn_iconst C 0 (by decide) dX6_word_164 ?_
                          refine sw_istore_4 C rfl dX6_word_165 ?_
                          have L167 : ∀ (kM j : Nat) (s : Nat) (h1 : Nat) (w1 : Nat), j ≤ 9 → ((m = 0 ∧ h1 = h + n + 0 ∧ w1 = 1) ∨ (m = 1 ∧ h1 = h + n + 1 ∧ w1 = 0)) → (s = zIt (fun w s => if wM (mS S) h w (n + 1) = true ∧ wA w + (n + 1) = wA (w + 1) then w else s) j 4294967295) → 9 - j < kM → SN G X 0 0 167 [some (.ref 12), some (zi (n + 1)), some (zi s), some (zi m), some (zi j)] [] (mRd S h1 w1 L2) J E := by
                            intro kM
                            induction kM with
                            | zero => intro j s h1 w1 _ _ _ hkM; exact absurd hkM (by omega)
                            | succ kM ih167 =>
                              intro j s h1 w1 hj hhw hs hkM
                              have hs9 := wIs_lt (sg := mS S) (p := h) (n := n + 1) hj
                              rw [← hs] at hs9
                              refine sw_iload_4 C dX6_word_167 ?_
                              refine sn_bipush C 9 (by decide) dX6_word_169 ?_
                              refine sn_icmp_ge C 219 (by omega) (by omega) dX6_word_171 (by decide) (fun c171 => ?_) (fun c171 => ?_)
                              · have hse : s = wIs (mS S) h (n + 1) := by rw [hs, show j = 9 from by omega]; rfl
                                have hd2 : (h1 = h + (n + 1) ∧ w1 = 0 ∧ s = 4294967295 ∧ n + 1 ≤ 7 ∧ (∀ b, b < 9 → L2 b = (wM (mS S) h b (n + 1)).toNat) ∧ h + (n + 1) ≤ S 12 17 ∧ mWd (mS S) h (8 - (n + 1)) (n + 1) = mWd (mS S) h 8 0) ∨ ((w1 = 1 ∨ s < 2 ^ 31) ∧ s < 2 ^ 32 ∧ w1 ≤ 1 ∧ (∀ b, b < 9 → L2 b = (wM (mS S) h b (n + 1)).toNat) ∧ mWd (mS S) h 8 0 = (s, h1, w1, n + 1)) := by
                                  rw [show 8 - n = 8 - (n + 1) + 1 from by omega, mWd, ← hma, ← hse] at hfu
                                  rcases hhw with ⟨e1, e2, e3⟩ | ⟨e1, e2, e3⟩
                                  · rw [if_pos e1] at hfu
                                    have e4 : s = 4294967295 := by rw [hse]; exact wIs0 (hma ▸ e1)
                                    refine Or.inr ⟨Or.inl e3, by omega, by omega, hLf, ?_⟩
                                    rw [← hfu, e2, e3, e4]; rfl
                                  · rw [if_neg (by omega)] at hfu
                                    by_cases h9 : s < 2 ^ 31
                                    · rw [if_pos h9] at hfu
                                      exact Or.inr ⟨Or.inr h9, by omega, by omega, hLf, by rw [← hfu, e2, e3]⟩
                                    · rw [if_neg h9] at hfu
                                      have hn8 : n + 1 ≤ 7 := by
                                        apply Classical.byContradiction
                                        intro hcon
                                        have e8 : n + 1 = 8 := by omega
                                        rw [e8, wAny_8] at hma; omega
                                      have hlt : h + n < S 12 17 := by
                                        apply Classical.byContradiction
                                        intro hcon
                                        have e9 : mS S (h + n) = 4294967295 := by unfold mS; rw [if_neg (by omega)]
                                        have e10 : wAny (mS S) h (n + 1) = 0 := zIt_inv (fun m => m = 0) rfl (fun w m hw hm => by
                                          try dsimp only
                                          have h1 : wM (mS S) h w (n + 1) = false := by
                                            rw [wM, e9]
                                            by_cases h47 : wA w + n < wA (w + 1)
                                            · have := wW_lt (show wA w + n < 47 by have := (wA_le hw).1; omega)
                                              rw [decide_eq_false (show ¬ wW (wA w + n) = 4294967295 by omega)]; simp
                                            · rw [decide_eq_false h47]; simp
                                          rw [hm, h1]; rfl)
                                        omega
                                      exact Or.inl ⟨by omega, e3, by omega, hn8, hLf, by omega, hfu⟩
                                refine sw_goto C 25 dX6_word_219 (by decide) ?_
                                exact ih25 (n + 1) _ _ _ _ _ _ (by omega) hd2 (by omega)
                              · refine sw_aload_0 C dX6_word_174 ?_
                                refine sw_getR C (o' := 20) fX6_38 rfl (by decide) rfl rfl (by decide) dX6_word_175 ?_
                                refine sw_iload_4 C dX6_word_178 ?_
                                refine sn_ialde C (L2 j) (by unfold mRd; rw [if_neg (by omega), if_neg (by omega), if_pos ⟨rfl, by omega⟩]) rfl (by decide) (by omega) (by decide) dX6_word_180 ?_
                                refine sn_iconst C 1 (by decide) dX6_word_181 ?_
                                refine sn_icmp_ne C 211 (by rw [hLf j (by omega)]; have := Bool.toNat_lt (wM (mS S) h j (n + 1)); omega) (by decide) dX6_word_182 (by decide) (fun c182 => ?_) (fun c182 => ?_)
                                · have hb1 : ¬ wM (mS S) h j (n + 1) = true := fun hc => by rw [hLf j (by omega), hc] at c182; exact c182 rfl
                                  refine sw_iload_2 C dX6_word_211 ?_
                                  refine sw_istore_2 C rfl dX6_word_212 ?_
                                  refine sn_iinc_4 C rfl dX6_word_213 ?_
                                  refine sw_goto C 167 dX6_word_216 (by decide) ?_
                                  exact ih167 (j + 1) _ _ _ (by omega) hhw (by rw [zIt, ← hs]; first | (rw [if_pos ⟨hb1, c203⟩]; done) | (rw [if_neg (fun hc => c203 hc.2)]; done) | (rw [if_neg (fun hc => hb1 hc.1)]; done)) (by omega)
                                · have hb1 : wM (mS S) h j (n + 1) = true := by
                                    rw [hLf j (by omega)] at c182
                                    cases hc : wM (mS S) h j (n + 1) with
                                    | true => rfl
                                    | false => rw [hc] at c182; exact absurd c182 (by decide)
                                  refine sw_aload_0 C dX6_word_185 ?_
                                  refine sw_getR C (o' := 22) fX6_44 rfl (by decide) rfl rfl (by decide) dX6_word_186 ?_
                                  refine sw_iload_4 C dX6_word_189 ?_
                                  refine sn_ialde C (wA j) ((mRd_at (by decide) (by decide)).trans (hW.2 j (by omega))) rfl (by decide) (by omega) (by decide) dX6_word_191 ?_
                                  refine sw_iload_1 C dX6_word_192 ?_
                                  refine sn_iadd C dX6_word_193 ?_
                                  refine sw_aload_0 C dX6_word_194 ?_
                                  refine sw_getR C (o' := 22) fX6_44 rfl (by decide) rfl rfl (by decide) dX6_word_195 ?_
                                  refine sw_iload_4 C dX6_word_198 ?_
                                  refine sn_iconst C 1 (by decide) dX6_word_200 ?_
                                  refine sn_iadd C dX6_word_201 ?_
                                  refine sn_ialde C (wA (j + 1)) ((mRd_at (by decide) (by decide)).trans (hW.2 (j + 1) (by omega))) rfl (by decide) (by omega) (by decide) dX6_word_202 ?_
                                  refine sn_icmp_ne C 211 (by have := wA_le (show j < 9 by omega); omega) (by have := wA_le (show j < 9 by omega); omega) dX6_word_203 (by decide) (fun c203 => ?_) (fun c203 => ?_)
                                  · refine sw_iload_2 C dX6_word_211 ?_
                                    refine sw_istore_2 C rfl dX6_word_212 ?_
                                    refine sn_iinc_4 C rfl dX6_word_213 ?_
                                    refine sw_goto C 167 dX6_word_216 (by decide) ?_
                                    exact ih167 (j + 1) _ _ _ (by omega) hhw (by rw [zIt, ← hs]; first | (rw [if_pos ⟨hb1, c203⟩]; done) | (rw [if_neg (fun hc => c203 hc.2)]; done) | (rw [if_neg (fun hc => hb1 hc.1)]; done)) (by omega)
                                  · refine sw_iload_4 C dX6_word_206 ?_
                                    refine sw_goto C 212 dX6_word_208 (by decide) ?_
                                    refine sw_istore_2 C rfl dX6_word_212 ?_
                                    refine sn_iinc_4 C rfl dX6_word_213 ?_
                                    refine sw_goto C 167 dX6_word_216 (by decide) ?_
                                    exact ih167 (j + 1) _ _ _ (by omega) hhw (by rw [zIt, ← hs]; first | (rw [if_pos ⟨hb1, c203⟩]; done) | (rw [if_neg (fun hc => c203 hc.2)]; done) | (rw [if_neg (fun hc => hb1 hc.1)]; done)) (by omega)
                          exact L167 _ 0 _ _ _ (by omega) (by first | exact Or.inl ⟨by omega, rfl, rfl⟩ | exact Or.inr ⟨by omega, rfl, rfl⟩ | (exfalso; omega)) rfl (Nat.lt_succ_self _)
                        · refine sn_iconst C 1 (by decide) dX6_word_152 ?_
                          refine sw_goto C 157 dX6_word_153 (by decide) ?_
                          refine sn_iadd C dX6_word_157 ?_
                          refine sn_putI C fX6_179 rfl (by decide) rfl rfl dX6_word_158 ?_
                          rw [mRd_16]
                          refine sn_iinc_1 C rfl dX6_word_161 ?_
                          refine sn_iconst C 0 (by decide) dX6_word_164 ?_
                          refine sw_istore_4 C rfl dX6_word_165 ?_
                          have L167 : ∀ (kM j : Nat) (s : Nat) (h1 : Nat) (w1 : Nat), j ≤ 9 → ((m = 0 ∧ h1 = h + n + 0 ∧ w1 = 1) ∨ (m = 1 ∧ h1 = h + n + 1 ∧ w1 = 0)) → (s = zIt (fun w s => if wM (mS S) h w (n + 1) = true ∧ wA w + (n + 1) = wA (w + 1) then w else s) j 4294967295) → 9 - j < kM → SN G X 0 0 167 [some (.ref 12), some (zi (n + 1)), some (zi s), some (zi m), some (zi j)] [] (mRd S h1 w1 L2) J E := by
                            intro kM
                            induction kM with
                            | zero => intro j s h1 w1 _ _ _ hkM; exact absurd hkM (by omega)
                            | succ kM ih167 =>
                              intro j s h1 w1 hj hhw hs hkM
                              have hs9 := wIs_lt (sg := mS S) (p := h) (n := n + 1) hj
                              rw [← hs] at hs9
                              refine sw_iload_4 C dX6_word_167 ?_
                              refine sn_bipush C 9 (by decide) dX6_word_169 ?_
                              refine sn_icmp_ge C 219 (by omega) (by omega) dX6_word_171 (by decide) (fun c171 => ?_) (fun c171 => ?_)
                              · have hse : s = wIs (mS S) h (n + 1) := by rw [hs, show j = 9 from by omega]; rfl
                                have hd2 : (h1 = h + (n + 1) ∧ w1 = 0 ∧ s = 4294967295 ∧ n + 1 ≤ 7 ∧ (∀ b, b < 9 → L2 b = (wM (mS S) h b (n + 1)).toNat) ∧ h + (n + 1) ≤ S 12 17 ∧ mWd (mS S) h (8 - (n + 1)) (n + 1) = mWd (mS S) h 8 0) ∨ ((w1 = 1 ∨ s < 2 ^ 31) ∧ s < 2 ^ 32 ∧ w1 ≤ 1 ∧ (∀ b, b < 9 → L2 b = (wM (mS S) h b (n + 1)).toNat) ∧ mWd (mS S) h 8 0 = (s, h1, w1, n + 1)) := by
                                  rw [show 8 - n = 8 - (n + 1) + 1 from by omega, mWd, ← hma, ← hse] at hfu
                                  rcases hhw with ⟨e1, e2, e3⟩ | ⟨e1, e2, e3⟩
                                  · rw [if_pos e1] at hfu
                                    have e4 : s = 4294967295 := by rw [hse]; exact wIs0 (hma ▸ e1)
                                    refine Or.inr ⟨Or.inl e3, by omega, by omega, hLf, ?_⟩
                                    rw [← hfu, e2, e3, e4]; rfl
                                  · rw [if_neg (by omega)] at hfu
                                    by_cases h9 : s < 2 ^ 31
                                    · rw [if_pos h9] at hfu
                                      exact Or.inr ⟨Or.inr h9, by omega, by omega, hLf, by rw [← hfu, e2, e3]⟩
                                    · rw [if_neg h9] at hfu
                                      have hn8 : n + 1 ≤ 7 := by
                                        apply Classical.byContradiction
                                        intro hcon
                                        have e8 : n + 1 = 8 := by omega
                                        rw [e8, wAny_8] at hma; omega
                                      have hlt : h + n < S 12 17 := by
                                        apply Classical.byContradiction
                                        intro hcon
                                        have e9 : mS S (h + n) = 4294967295 := by unfold mS; rw [if_neg (by omega)]
                                        have e10 : wAny (mS S) h (n + 1) = 0 := zIt_inv (fun m => m = 0) rfl (fun w m hw hm => by
                                          try dsimp only
                                          have h1 : wM (mS S) h w (n + 1) = false := by
                                            rw [wM, e9]
                                            by_cases h47 : wA w + n < wA (w + 1)
                                            · have := wW_lt (show wA w + n < 47 by have := (wA_le hw).1; omega)
                                              rw [decide_eq_false (show ¬ wW (wA w + n) = 4294967295 by omega)]; simp
                                            · rw [decide_eq_false h47]; simp
                                          rw [hm, h1]; rfl)
                                        omega
                                      exact Or.inl ⟨by omega, e3, by omega, hn8, hLf, by omega, hfu⟩
                                refine sw_goto C 25 dX6_word_219 (by decide) ?_
                                exact ih25 (n + 1) _ _ _ _ _ _ (by omega) hd2 (by omega)
                              · refine sw_aload_0 C dX6_word_174 ?_
                                refine sw_getR C (o' := 20) fX6_38 rfl (by decide) rfl rfl (by decide) dX6_word_175 ?_
                                refine sw_iload_4 C dX6_word_178 ?_
                                refine sn_ialde C (L2 j) (by unfold mRd; rw [if_neg (by omega), if_neg (by omega), if_pos ⟨rfl, by omega⟩]) rfl (by decide) (by omega) (by decide) dX6_word_180 ?_
                                refine sn_iconst C 1 (by decide) dX6_word_181 ?_
                                refine sn_icmp_ne C 211 (by rw [hLf j (by omega)]; have := Bool.toNat_lt (wM (mS S) h j (n + 1)); omega) (by decide) dX6_word_182 (by decide) (fun c182 => ?_) (fun c182 => ?_)
                                · have hb1 : ¬ wM (mS S) h j (n + 1) = true := fun hc => by rw [hLf j (by omega), hc] at c182; exact c182 rfl
                                  refine sw_iload_2 C dX6_word_211 ?_
                                  refine sw_istore_2 C rfl dX6_word_212 ?_
                                  refine sn_iinc_4 C rfl dX6_word_213 ?_
                                  refine sw_goto C 167 dX6_word_216 (by decide) ?_
                                  exact ih167 (j + 1) _ _ _ (by omega) hhw (by rw [zIt, ← hs]; first | (rw [if_pos ⟨hb1, c203⟩]; done) | (rw [if_neg (fun hc => c203 hc.2)]; done) | (rw [if_neg (fun hc => hb1 hc.1)]; done)) (by omega)
                                · have hb1 : wM (mS S) h j (n + 1) = true := by
                                    rw [hLf j (by omega)] at c182
                                    cases hc : wM (mS S) h j (n + 1) with
                                    | true => rfl
                                    | false => rw [hc] at c182; exact absurd c182 (by decide)
                                  refine sw_aload_0 C dX6_word_185 ?_
                                  refine sw_getR C (o' := 22) fX6_44 rfl (by decide) rfl rfl (by decide) dX6_word_186 ?_
                                  refine sw_iload_4 C dX6_word_189 ?_
                                  refine sn_ialde C (wA j) ((mRd_at (by decide) (by decide)).trans (hW.2 j (by omega))) rfl (by decide) (by omega) (by decide) dX6_word_191 ?_
                                  refine sw_iload_1 C dX6_word_192 ?_
                                  refine sn_iadd C dX6_word_193 ?_
                                  refine sw_aload_0 C dX6_word_194 ?_
                                  refine sw_getR C (o' := 22) fX6_44 rfl (by decide) rfl rfl (by decide) dX6_word_195 ?_
                                  refine sw_iload_4 C dX6_word_198 ?_
                                  refine sn_iconst C 1 (by decide) dX6_word_200 ?_
                                  refine sn_iadd C dX6_word_201 ?_
                                  refine sn_ialde C (wA (j + 1)) ((mRd_at (by decide) (by decide)).trans (hW.2 (j + 1) (by omega))) rfl (by decide) (by omega) (by decide) dX6_word_202 ?_
                                  refine sn_icmp_ne C 211 (by have := wA_le (show j < 9 by omega); omega) (by have := wA_le (show j < 9 by omega); omega) dX6_word_203 (by decide) (fun c203 => ?_) (fun c203 => ?_)
                                  · refine sw_iload_2 C dX6_word_211 ?_
                                    refine sw_istore_2 C rfl dX6_word_212 ?_
                                    refine sn_iinc_4 C rfl dX6_word_213 ?_
                                    refine sw_goto C 167 dX6_word_216 (by decide) ?_
                                    exact ih167 (j + 1) _ _ _ (by omega) hhw (by rw [zIt, ← hs]; first | (rw [if_pos ⟨hb1, c203⟩]; done) | (rw [if_neg (fun hc => c203 hc.2)]; done) | (rw [if_neg (fun hc => hb1 hc.1)]; done)) (by omega)
                                  · refine sw_iload_4 C dX6_word_206 ?_
                                    refine sw_goto C 212 dX6_word_208 (by decide) ?_
                                    refine sw_istore_2 C rfl dX6_word_212 ?_
                                    refine sn_iinc_4 C rfl dX6_word_213 ?_
                                    refine sw_goto C 167 dX6_word_216 (by decide) ?_
                                    exact ih167 (j + 1) _ _ _ (by omega) hhw (by rw [zIt, ← hs]; first | (rw [if_pos ⟨hb1, c203⟩]; done) | (rw [if_neg (fun hc => c203 hc.2)]; done) | (rw [if_neg (fun hc => hb1 hc.1)]; done)) (by omega)
                          exact L167 _ 0 _ _ _ (by omega) (by first | exact Or.inl ⟨by omega, rfl, rfl⟩ | exact Or.inr ⟨by omega, rfl, rfl⟩ | (exfalso; omega)) rfl (Nat.lt_succ_self _)
                    · refine sw_aload_0 C dX6_word_48 ?_
                      refine sw_getR C (o' := 20) fX6_38 rfl (by decide) rfl rfl (by decide) dX6_word_49 ?_
                      refine sw_iload_4 C dX6_word_52 ?_
                      refine sw_dup2 C rfl rfl dX6_word_54 ?_
                      refine sn_ialde C (L2 j) (by unfold mRd; rw [if_neg (by omega), if_neg (by omega), if_pos ⟨rfl, by omega⟩]) rfl (by decide) (by omega) (by decide) dX6_word_55 ?_
                      refine sw_aload_0 C dX6_word_56 ?_
                      refine sw_getR C (o' := 22) fX6_44 rfl (by decide) rfl rfl (by decide) dX6_word_57 ?_
                      refine sw_iload_4 C dX6_word_60 ?_
                      refine sn_ialde C (wA j) ((mRd_at (by decide) (by decide)).trans (hW.2 j (by omega))) rfl (by decide) (by omega) (by decide) dX6_word_62 ?_
                      refine sw_iload_1 C dX6_word_63 ?_
                      refine sn_iadd C dX6_word_64 ?_
                      refine sw_aload_0 C dX6_word_65 ?_
                      refine sw_getR C (o' := 22) fX6_44 rfl (by decide) rfl rfl (by decide) dX6_word_66 ?_
                      refine sw_iload_4 C dX6_word_69 ?_
                      refine sn_iconst C 1 (by decide) dX6_word_71 ?_
                      refine sn_iadd C dX6_word_72 ?_
                      refine sn_ialde C (wA (j + 1)) ((mRd_at (by decide) (by decide)).trans (hW.2 (j + 1) (by omega))) rfl (by decide) (by omega) (by decide) dX6_word_73 ?_
                      refine sn_icmp_ge C 102 (by have := wA_le (show j < 9 by omega); omega) (by have := wA_le (show j < 9 by omega); omega) dX6_word_74 (by decide) (fun c74 => ?_) (fun c74 => ?_)
                      · refine sn_iconst C 0 (by decide) dX6_word_102 ?_
                        refine sn_iand C dX6_word_103 ?_
                        refine sn_iast C rfl (by decide) (by omega) (by decide) dX6_word_104 ?_
                        rw [mRd_20 (by omega)]
                        generalize hx0 : L2 j &&& 0 = xv
                        have hx : xv = (wM (mS S) h j (n + 1)).toNat := by
                          rw [wM, ← hx0, hL2 j (by omega), if_neg (Nat.lt_irrefl j)]
                          first
                            | (rw [decide_eq_false (show ¬ wA j + n < wA (j + 1) by omega)]; simp; done)
                            | (rw [decide_eq_true (show wA j + n < wA (j + 1) by omega), decide_eq_false (show ¬ wW (wA j + n) = mS S (h + n) from c95)]; simp; done)
                            | (rw [decide_eq_true (show wA j + n < wA (j + 1) by omega), decide_eq_true (show wW (wA j + n) = mS S (h + n) from c95)]; simp only [Bool.and_true]; exact wAnd1)
                        have hL3 : ∀ b, b < 9 → mUpd L2 j xv b = if b < j + 1 then (wM (mS S) h b (n + 1)).toNat else (wM (mS S) h b n).toNat := by
                          intro b hb
                          unfold mUpd
                          by_cases e : b = j
                          · subst e; rw [if_pos rfl, if_pos (by omega)]; exact hx
                          · rw [if_neg e, hL2 b hb]
                            by_cases e2 : b < j
                            · rw [if_pos e2, if_pos (by omega)]
                            · rw [if_neg e2, if_neg (by omega)]
                        refine sw_iload_3 C dX6_word_105 ?_
                        refine sw_aload_0 C dX6_word_106 ?_
                        refine sw_getR C (o' := 20) fX6_38 rfl (by decide) rfl rfl (by decide) dX6_word_107 ?_
                        refine sw_iload_4 C dX6_word_110 ?_
                        refine sn_ialde C (xv) (by unfold mRd; rw [if_neg (by omega), if_neg (by omega), if_pos ⟨rfl, by omega⟩]; unfold mUpd; rw [if_pos rfl]) rfl (by decide) (by omega) (by decide) dX6_word_112 ?_
                        refine sn_iconst C 1 (by decide) dX6_word_113 ?_
                        refine sn_icmp_ne C 121 (by rw [hx]; have := Bool.toNat_lt (wM (mS S) h j (n + 1)); omega) (by decide) dX6_word_114 (by decide) (fun c114 => ?_) (fun c114 => ?_)
                        · refine sn_iconst C 0 (by decide) dX6_word_121 ?_
                          refine sn_ior C dX6_word_122 ?_
                          refine sw_istore_3 C rfl dX6_word_123 ?_
                          refine sn_iinc_4 C rfl dX6_word_124 ?_
                          refine sw_goto C 41 dX6_word_127 (by decide) ?_
                          first
                            | exact ih41 (j + 1) _ _ (by omega) (show m ||| 1 = _ by rw [zIt, ← hm, ← hx, c114]) hL3 (by omega)
                            | exact ih41 (j + 1) _ _ (by omega) (show m ||| 0 = _ by rw [zIt, ← hm, ← hx, show xv = 0 from by have := Bool.toNat_lt (wM (mS S) h j (n + 1)); omega]) hL3 (by omega)
                        · refine sn_iconst C 1 (by decide) dX6_word_117 ?_
                          refine sw_goto C 122 dX6_word_118 (by decide) ?_
                          refine sn_ior C dX6_word_122 ?_
                          refine sw_istore_3 C rfl dX6_word_123 ?_
                          refine sn_iinc_4 C rfl dX6_word_124 ?_
                          refine sw_goto C 41 dX6_word_127 (by decide) ?_
                          first
                            | exact ih41 (j + 1) _ _ (by omega) (show m ||| 1 = _ by rw [zIt, ← hm, ← hx, c114]) hL3 (by omega)
                            | exact ih41 (j + 1) _ _ (by omega) (show m ||| 0 = _ by rw [zIt, ← hm, ← hx, show xv = 0 from by have := Bool.toNat_lt (wM (mS S) h j (n + 1)); omega]) hL3 (by omega)
                      · refine sw_aload_0 C dX6_word_77 ?_
                        refine sw_getR C (o' := 21) fX6_41 rfl (by decide) rfl rfl (by decide) dX6_word_78 ?_
                        refine sw_aload_0 C dX6_word_81 ?_
                        refine sw_getR C (o' := 22) fX6_44 rfl (by decide) rfl rfl (by decide) dX6_word_82 ?_
                        refine sw_iload_4 C dX6_word_85 ?_
                        refine sn_ialde C (wA j) ((mRd_at (by decide) (by decide)).trans (hW.2 j (by omega))) rfl (by decide) (by omega) (by decide) dX6_word_87 ?_
                        refine sw_iload_1 C dX6_word_88 ?_
                        refine sn_iadd C dX6_word_89 ?_
                        refine sn_ialde C (wW (wA j + n)) ((mRd_at (by decide) (by decide)).trans (hW.1 _ (by have := wA_le (show j < 9 by omega); omega))) rfl (by decide) (by have := wA_le (show j < 9 by omega); omega) (by decide) dX6_word_90 ?_
                        refine sw_aload_0 C dX6_word_91 ?_
                        refine sn_cV0r C vX6_sign lX6_189 rfl (by decide) rfl rfl dX6_word_92 (Nat.le_of_ble_eq_true rfl) (c_X6_sign hl htx hhn) (by decide) (by decide) (by decide) ?_
                        refine sn_icmp_ne C 102 (by have := wA_le (show j < 9 by omega); have := wW_lt (show wA j + n < 47 by omega); omega) (mS_lt htx _) dX6_word_95 (by decide) (fun c95 => ?_) (fun c95 => ?_)
                        · refine sn_iconst C 0 (by decide) dX6_word_102 ?_
                          refine sn_iand C dX6_word_103 ?_
                          refine sn_iast C rfl (by decide) (by omega) (by decide) dX6_word_104 ?_
                          rw [mRd_20 (by omega)]
                          generalize hx0 : L2 j &&& 0 = xv
                          have hx : xv = (wM (mS S) h j (n + 1)).toNat := by
                            rw [wM, ← hx0, hL2 j (by omega), if_neg (Nat.lt_irrefl j)]
                            first
                              | (rw [decide_eq_false (show ¬ wA j + n < wA (j + 1) by omega)]; simp; done)
                              | (rw [decide_eq_true (show wA j + n < wA (j + 1) by omega), decide_eq_false (show ¬ wW (wA j + n) = mS S (h + n) from c95)]; simp; done)
                              | (rw [decide_eq_true (show wA j + n < wA (j + 1) by omega), decide_eq_true (show wW (wA j + n) = mS S (h + n) from c95)]; simp only [Bool.and_true]; exact wAnd1)
                          have hL3 : ∀ b, b < 9 → mUpd L2 j xv b = if b < j + 1 then (wM (mS S) h b (n + 1)).toNat else (wM (mS S) h b n).toNat := by
                            intro b hb
                            unfold mUpd
                            by_cases e : b = j
                            · subst e; rw [if_pos rfl, if_pos (by omega)]; exact hx
                            · rw [if_neg e, hL2 b hb]
                              by_cases e2 : b < j
                              · rw [if_pos e2, if_pos (by omega)]
                              · rw [if_neg e2, if_neg (by omega)]
                          refine sw_iload_3 C dX6_word_105 ?_
                          refine sw_aload_0 C dX6_word_106 ?_
                          refine sw_getR C (o' := 20) fX6_38 rfl (by decide) rfl rfl (by decide) dX6_word_107 ?_
                          refine sw_iload_4 C dX6_word_110 ?_
                          refine sn_ialde C (xv) (by unfold mRd; rw [if_neg (by omega), if_neg (by omega), if_pos ⟨rfl, by omega⟩]; unfold mUpd; rw [if_pos rfl]) rfl (by decide) (by omega) (by decide) dX6_word_112 ?_
                          refine sn_iconst C 1 (by decide) dX6_word_113 ?_
                          refine sn_icmp_ne C 121 (by rw [hx]; have := Bool.toNat_lt (wM (mS S) h j (n + 1)); omega) (by decide) dX6_word_114 (by decide) (fun c114 => ?_) (fun c114 => ?_)
                          · refine sn_iconst C 0 (by decide) dX6_word_121 ?_
                            refine sn_ior C dX6_word_122 ?_
                            refine sw_istore_3 C rfl dX6_word_123 ?_
                            refine sn_iinc_4 C rfl dX6_word_124 ?_
                            refine sw_goto C 41 dX6_word_127 (by decide) ?_
                            first
                              | exact ih41 (j + 1) _ _ (by omega) (show m ||| 1 = _ by rw [zIt, ← hm, ← hx, c114]) hL3 (by omega)
                              | exact ih41 (j + 1) _ _ (by omega) (show m ||| 0 = _ by rw [zIt, ← hm, ← hx, show xv = 0 from by have := Bool.toNat_lt (wM (mS S) h j (n + 1)); omega]) hL3 (by omega)
                          · refine sn_iconst C 1 (by decide) dX6_word_117 ?_
                            refine sw_goto C 122 dX6_word_118 (by decide) ?_
                            refine sn_ior C dX6_word_122 ?_
                            refine sw_istore_3 C rfl dX6_word_123 ?_
                            refine sn_iinc_4 C rfl dX6_word_124 ?_
                            refine sw_goto C 41 dX6_word_127 (by decide) ?_
                            first
                              | exact ih41 (j + 1) _ _ (by omega) (show m ||| 1 = _ by rw [zIt, ← hm, ← hx, c114]) hL3 (by omega)
                              | exact ih41 (j + 1) _ _ (by omega) (show m ||| 0 = _ by rw [zIt, ← hm, ← hx, show xv = 0 from by have := Bool.toNat_lt (wM (mS S) h j (n + 1)); omega]) hL3 (by omega)
                        · refine sn_iconst C 1 (by decide) dX6_word_98 ?_
                          refine sw_goto C 103 dX6_word_99 (by decide) ?_
                          refine sn_iand C dX6_word_103 ?_
                          refine sn_iast C rfl (by decide) (by omega) (by decide) dX6_word_104 ?_
                          rw [mRd_20 (by omega)]
                          generalize hx0 : L2 j &&& 1 = xv
                          have hx : xv = (wM (mS S) h j (n + 1)).toNat := by
                            rw [wM, ← hx0, hL2 j (by omega), if_neg (Nat.lt_irrefl j)]
                            first
                              | (rw [decide_eq_false (show ¬ wA j + n < wA (j + 1) by omega)]; simp; done)
                              | (rw [decide_eq_true (show wA j + n < wA (j + 1) by omega), decide_eq_false (show ¬ wW (wA j + n) = mS S (h + n) from c95)]; simp; done)
                              | (rw [decide_eq_true (show wA j + n < wA (j + 1) by omega), decide_eq_true (show wW (wA j + n) = mS S (h + n) from c95)]; simp only [Bool.and_true]; exact wAnd1)
                          have hL3 : ∀ b, b < 9 → mUpd L2 j xv b = if b < j + 1 then (wM (mS S) h b (n + 1)).toNat else (wM (mS S) h b n).toNat := by
                            intro b hb
                            unfold mUpd
                            by_cases e : b = j
                            · subst e; rw [if_pos rfl, if_pos (by omega)]; exact hx
                            · rw [if_neg e, hL2 b hb]
                              by_cases e2 : b < j
                              · rw [if_pos e2, if_pos (by omega)]
                              · rw [if_neg e2, if_neg (by omega)]
                          refine sw_iload_3 C dX6_word_105 ?_
                          refine sw_aload_0 C dX6_word_106 ?_
                          refine sw_getR C (o' := 20) fX6_38 rfl (by decide) rfl rfl (by decide) dX6_word_107 ?_
                          refine sw_iload_4 C dX6_word_110 ?_
                          refine sn_ialde C (xv) (by unfold mRd; rw [if_neg (by omega), if_neg (by omega), if_pos ⟨rfl, by omega⟩]; unfold mUpd; rw [if_pos rfl]) rfl (by decide) (by omega) (by decide) dX6_word_112 ?_
                          refine sn_iconst C 1 (by decide) dX6_word_113 ?_
                          refine sn_icmp_ne C 121 (by rw [hx]; have := Bool.toNat_lt (wM (mS S) h j (n + 1)); omega) (by decide) dX6_word_114 (by decide) (fun c114 => ?_) (fun c114 => ?_)
                          · refine sn_iconst C 0 (by decide) dX6_word_121 ?_
                            refine sn_ior C dX6_word_122 ?_
                            refine sw_istore_3 C rfl dX6_word_123 ?_
                            refine sn_iinc_4 C rfl dX6_word_124 ?_
                            refine sw_goto C 41 dX6_word_127 (by decide) ?_
                            first
                              | exact ih41 (j + 1) _ _ (by omega) (show m ||| 1 = _ by rw [zIt, ← hm, ← hx, c114]) hL3 (by omega)
                              | exact ih41 (j + 1) _ _ (by omega) (show m ||| 0 = _ by rw [zIt, ← hm, ← hx, show xv = 0 from by have := Bool.toNat_lt (wM (mS S) h j (n + 1)); omega]) hL3 (by omega)
                          · refine sn_iconst C 1 (by decide) dX6_word_117 ?_
                            refine sw_goto C 122 dX6_word_118 (by decide) ?_
                            refine sn_ior C dX6_word_122 ?_
                            refine sw_istore_3 C rfl dX6_word_123 ?_
                            refine sn_iinc_4 C rfl dX6_word_124 ?_
                            refine sw_goto C 41 dX6_word_127 (by decide) ?_
                            first
                              | exact ih41 (j + 1) _ _ (by omega) (show m ||| 1 = _ by rw [zIt, ← hm, ← hx, c114]) hL3 (by omega)
                              | exact ih41 (j + 1) _ _ (by omega) (show m ||| 0 = _ by rw [zIt, ← hm, ← hx, show xv = 0 from by have := Bool.toNat_lt (wM (mS S) h j (n + 1)); omega]) hL3 (by omega)
                exact L41 _ 0 _ _ (by omega) rfl (fun b hb => by rw [if_neg (Nat.not_lt_zero b)]; exact hL1 b hb) (Nat.lt_succ_self _)
        exact L25 _ 0 _ _ _ _ _ _ (by omega) (Or.inl ⟨rfl, rfl, rfl, by decide, fun b hb => by rw [hL b (by omega)]; rfl, hh, rfl⟩) (Nat.lt_succ_self _)
      · refine sw_aload_0 C dX6_word_8 ?_
        refine sw_getR C (o' := 20) fX6_38 rfl (by decide) rfl rfl (by decide) dX6_word_9 ?_
        refine sw_iload_1 C dX6_word_12 ?_
        refine sn_iconst C 1 (by decide) dX6_word_13 ?_
        refine sn_iast C rfl (by decide) (by omega) (by decide) dX6_word_14 ?_
        refine sn_iinc_1 C rfl dX6_word_15 ?_
        refine sw_goto C 2 dX6_word_18 (by decide) ?_
        rw [mRd_20 (by omega)]; exact ih2 (i + 1) _ (by omega) (fun b hb => by unfold mUpd; split <;> first | rfl | exact hL b (by omega)) (by omega)
  exact L2 _ 0 _ (by omega) (fun b hb => absurd hb (Nat.not_lt_zero b)) (Nat.lt_succ_self _)
