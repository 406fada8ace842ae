/-! reading on: what is kept, and how far -/
theorem mWd_ge {sg : Nat → Nat} {p : Nat} : ∀ (k n : Nat), p ≤ (mWd sg p k n).2.1 := by
  intro k
  induction k with
  | zero => intro n; exact Nat.le_add_right _ _
  | succ k ih =>
    intro n
    rw [mWd]
    split
    · exact Nat.le_add_right _ _
    · split
      · dsimp only; omega
      · exact ih (n + 1)
theorem mBh_ge {sg : Nat → Nat} {k h : Nat} : h ≤ (mBh sg k h).2.1 := by
  unfold mBh; split
  · have := (mDg_ge (sg := sg) k (h + 1) 0).1; dsimp only; omega
  · exact Nat.le_refl _
theorem mCm_is {S : zS} {h : Nat} (hh : h ≤ S 12 17) : (mCm (mS S) h).2.2.2.1 ≤ S 12 17 ∧ h ≤ (mCm (mS S) h).2.2.2.1 ∧ (mCm (mS S) h).2.2.2.2.1 ≤ 1 := by
  obtain ⟨⟨w, p1, wr, nf⟩, hr⟩ : ∃ T, mWd (mS S) h 8 0 = T := ⟨_, rfl⟩
  have hp1 := mWd_len hh 8 0 hh
  have hg1 := mWd_ge (sg := mS S) (p := h) 8 0
  rw [hr] at hp1 hg1
  dsimp only at hp1 hg1
  have hd := fun k => mDg_len (S := S) k p1 0 hp1
  have hdg := fun k => (mDg_ge (sg := mS S) k p1 0).1
  unfold mCm
  rw [hr]
  try dsimp only
  split
  · split
    · split
      · have hb := mBh_len (S := S) (k := 2) hp1
        have hbg := mBh_ge (sg := mS S) (k := 2) (h := p1)
        exact ⟨hb.1, by dsimp only; omega, hb.2.1⟩
      · exact ⟨hp1, hg1, Nat.zero_le _⟩
    · split
      · refine ⟨hd _, Nat.le_trans hg1 (hdg _), ?_⟩
        dsimp only; split <;> omega
      · have hb := mBh_len (S := S) (k := mK2 w) (hd (mK1 w))
        have hbg := mBh_ge (sg := mS S) (k := mK2 w) (h := (mDg (mS S) (mK1 w) p1 0).1)
        have := hdg (mK1 w)
        exact ⟨hb.1, by dsimp only; omega, hb.2.1⟩
  · exact ⟨hp1, hg1, Nat.le_refl _⟩
def mIv (Q : zS) : Prop := mNw Q ∧ mTx Q ∧ mWds Q ∧ Q 12 16 ≤ Q 12 17 ∧ Q 12 19 ≤ 1 ∧ Q 12 0 ≤ 3 ∧ Q 12 20 ≤ 1
theorem mTx.same {S Q : zS} (h : mTx S) (h1 : Q 12 17 = S 12 17) (h2 : ∀ b, Q 18 b = S 18 b) : mTx Q := ⟨by rw [h1]; exact h.1, fun k hk => by rw [h2]; exact h.2 k hk⟩
theorem mWds.same {S Q : zS} (h : mWds S) (h1 : ∀ b, Q 21 b = S 21 b) (h2 : ∀ b, Q 22 b = S 22 b) : mWds Q := ⟨fun k hk => by rw [h1]; exact h.1 k hk, fun k hk => by rw [h2]; exact h.2 k hk⟩
theorem mRd_12 {S : zS} {h w b : Nat} {L : Nat → Nat} (h1 : b ≠ 16) (h2 : b ≠ 19) : mRd S h w L 12 b = S 12 b := by
  unfold mRd; rw [if_neg (by omega), if_neg (by omega), if_neg (by omega)]
theorem mCmE_iv {S : zS} {n t h : Nat} (hm : mNow S n t) (htx : mTx S) (hW : mWds S) (hh : h ≤ S 12 17) (h0 : S 12 0 ≤ 3) (h20 : S 12 20 ≤ 1) : mIv (mCmE S n t h) ∧ h ≤ mCmE S n t h 12 16 ∧ mCmE S n t h 12 17 = S 12 17 := by
  have hc := mCm_is hh
  obtain ⟨⟨w, x, y, p, wr, nf⟩, hC⟩ : ∃ T, mCm (mS S) h = T := ⟨_, rfl⟩
  rw [hC] at hc
  dsimp only at hc
  rw [mCmE_of hC]
  have hmR : ∀ h' w' L', mNow (mRd S h' w' L') n t := fun _ _ _ => mNow_row (fun b _ => mRd_at (by decide) (by decide)) hm
  have ht17 : ∀ h' w' L', mRd S h' w' L' 12 17 = S 12 17 := fun _ _ _ => mRd_12 (by decide) (by decide)
  split
  · rename_i hd
    have hD := mDoes_nw (w := w) (x := x) (y := y) (hmR p 0 (mWL (mS S) h nf))
    have ho : ∀ a b, a ≠ 13 → (a ≠ 12 ∨ b ≠ 0) → (mDoes (mRd S p 0 (mWL (mS S) h nf)) n t w x y).2 a b = mRd S p 0 (mWL (mS S) h nf) a b := fun a b ha hb => mDoes_o ha hb
    have e17 := (ho 12 17 (by decide) (Or.inr (by decide))).trans (ht17 _ _ _)
    have e16 : (mDoes (mRd S p 0 (mWL (mS S) h nf)) n t w x y).2 12 16 = p := ho 12 16 (by decide) (Or.inr (by decide))
    refine ⟨⟨hD, htx.same e17 (fun b => (ho 18 b (by decide) (Or.inl (by decide))).trans (mRd_at (by decide) (by decide))), hW.same (fun b => (ho 21 b (by decide) (Or.inl (by decide))).trans (mRd_at (by decide) (by decide))) (fun b => (ho 22 b (by decide) (Or.inl (by decide))).trans (mRd_at (by decide) (by decide))), by rw [e16, e17]; exact hc.1, ?_, ?_, ?_⟩, by rw [e16]; exact hc.2.1, e17⟩
    · rw [ho 12 19 (by decide) (Or.inr (by decide))]; exact Nat.zero_le _
    · exact mDoes_12 (by rw [mRd_12 (by decide) (by decide)]; exact h0)
    · rw [ho 12 20 (by decide) (Or.inr (by decide)), mRd_12 (by decide) (by decide)]; exact h20
  · refine ⟨⟨(hmR _ _ _).nw, htx.same (ht17 _ _ _) (fun b => mRd_at (by decide) (by decide)), hW.same (fun b => mRd_at (by decide) (by decide)) (fun b => mRd_at (by decide) (by decide)), ?_, ?_, ?_, ?_⟩, hc.2.1, ht17 _ _ _⟩
    · rw [ht17]; exact hc.1
    · exact hc.2.2
    · rw [mRd_12 (by decide) (by decide)]; exact h0
    · rw [mRd_12 (by decide) (by decide)]; exact h20
/-- the next command behind its mark -/
def mNx (Q : zS) : zS := if mS Q (Q 12 16) = 59 then mCmE Q (Q 13 0) (Q 13 1) (Q 12 16 + 1) else mRd Q (Q 12 16) 1 (Q 20)
def mCsL : Nat → Nat → zS → Nat × zS
  | 0, c, Q => (c, Q)
  | k + 1, c, Q => if Q 12 19 = 0 ∧ Q 12 0 = 0 ∧ Q 12 16 < Q 12 17 then mCsL k (c + 1) (mNx Q) else (c, Q)
def mCs (S : zS) : Nat × zS := mCsL 61 1 (mCmE S (S 13 0) (S 13 1) 0)
theorem mNx_iv {Q : zS} (h : mIv Q) (hlt : Q 12 16 < Q 12 17) : mIv (mNx Q) ∧ Q 12 16 + 1 ≤ mNx Q 12 16 + mNx Q 12 19 ∧ mNx Q 12 17 = Q 12 17 := by
  obtain ⟨hm, htx, hW, hh, hw, h0, h20⟩ := h
  unfold mNx
  split
  · have h := mCmE_iv hm htx hW (show Q 12 16 + 1 ≤ Q 12 17 from hlt) h0 h20
    exact ⟨h.1, by omega, h.2.2⟩
  · refine ⟨⟨mNow.nw (mNow_row (fun b _ => mRd_at (by decide) (by decide)) hm), htx.same (mRd_12 (by decide) (by decide)) (fun b => mRd_at (by decide) (by decide)), hW.same (fun b => mRd_at (by decide) (by decide)) (fun b => mRd_at (by decide) (by decide)), ?_, Nat.le_refl 1, ?_, ?_⟩, Nat.le_refl _, mRd_12 (by decide) (by decide)⟩
    · rw [mRd_12 (b := 17) (by decide) (by decide)]; exact hh
    · rw [mRd_12 (by decide) (by decide)]; exact h0
    · rw [mRd_12 (by decide) (by decide)]; exact h20
theorem mCsL_iv : ∀ (k c : Nat) (Q : zS), mIv Q → mIv (mCsL k c Q).2 ∧ (mCsL k c Q).1 ≤ c + k ∧ c ≤ (mCsL k c Q).1 ∧ (mCsL k c Q).2 12 17 = Q 12 17 := by
  intro k
  induction k with
  | zero => intro c Q h; exact ⟨h, Nat.le_refl _, Nat.le_refl _, rfl⟩
  | succ k ih =>
    intro c Q h
    rw [mCsL]
    split
    · rename_i hc
      have h2 := mNx_iv h hc.2.2
      have h3 := ih (c + 1) (mNx Q) h2.1
      exact ⟨h3.1, by omega, by omega, h3.2.2.2.trans h2.2.2⟩
    · exact ⟨h, by dsimp only; omega, Nat.le_refl _, rfl⟩
theorem mRd_00 {S : zS} : zU (zU S 12 16 0) 12 19 0 = mRd S 0 0 (S 20) := by
  have h : zU (zU (mRd S (S 12 16) (S 12 19) (S 20)) 12 16 0) 12 19 0 = mRd S 0 0 (S 20) := by rw [mRd_16, mRd_19]
  rw [mRd_self] at h; exact h

set_option maxRecDepth 100000 in
set_option maxHeartbeats 4000000 in
theorem c_X6_commands {l : Launch} (hl : l.stackTraces = false) {G : zG} {S : zS} {J : Int64} {E : UInt64} (hm : mNw S) (htx : mTx S) (hW : mWds S) (h0 : S 12 0 ≤ 3) (h20 : S 12 20 ≤ 1) : nCR l G mX6_commands 10 0 0 [.ref 12] S J E (some (zi (mCs S).1)) (mCs S).2 J E := by
  refine nCR.of hl (by decide) rfl (Nat.le_of_ble_eq_true rfl) (ls := [some (.ref 12), none]) rfl (fun X C hF hX => ?_)
  subst hX
  have hiv0 := mCmE_iv hm htx hW (Nat.zero_le (S 12 17)) h0 h20
  refine sw_aload_0 C dX6_commands_0 ?_
  refine sn_iconst C 0 (by decide) dX6_commands_1 ?_
  refine sn_putI C fX6_179 rfl (by decide) rfl rfl dX6_commands_2 ?_
  refine sw_aload_0 C dX6_commands_5 ?_
  refine sn_iconst C 0 (by decide) dX6_commands_6 ?_
  refine sn_putZN C (by decide) fX6_185 rfl (by decide) rfl rfl dX6_commands_7 ?_
  rw [mRd_00]
  refine sn_iconst C 1 (by decide) dX6_commands_10 ?_
  refine sw_istore_1 C rfl dX6_commands_11 ?_
  refine sw_aload_0 C dX6_commands_12 ?_
  refine sn_cV0v C vX6_command lX6_211 rfl (by decide) rfl rfl dX6_commands_13 (Nat.le_of_ble_eq_true rfl) (c_X6_command hl hm htx hW (by omega) (Nat.zero_le _)) (by decide) (by decide) (by decide) ?_
  have L16 : ∀ (kM i : Nat) (q : zS), i ≤ 61 → (mIv q) → (i ≤ q 12 16 + q 12 19) → (mCsL (61 - i) (i + 1) q = mCsL 61 1 (mCmE S (S 13 0) (S 13 1) 0)) → 61 - i < kM → SN G X 0 0 16 [some (.ref 12), some (zi (i + 1))] [] q J E := by
    intro kM
    induction kM with
    | zero => intro i q _ _ _ _ hkM; exact absurd hkM (by omega)
    | succ kM ih16 =>
      intro i q hi hiv hi hq hkM
      obtain ⟨qm, qtx, qW, qh, qw, q0, q20⟩ := id hiv
      have q60 := qtx.1
      refine sw_aload_0 C dX6_commands_16 ?_
      refine sn_getI C fX6_185 rfl (by decide) rfl dX6_commands_17 ?_
      refine sn_if_ne C 64 (by omega) dX6_commands_20 (by decide) (fun c20 => ?_) (fun c20 => ?_)
      · refine sw_iload_1 C dX6_commands_64 ?_
        exact sn_iret C rfl hF dX6_commands_65 (by decide) (by decide) (by
            unfold mCs; rw [← hq]
            by_cases h61 : i = 61
            · rw [h61]; rfl
            · rw [show 61 - i = 61 - (i + 1) + 1 from by omega, mCsL, if_neg (fun hc => by omega)]) (by
            unfold mCs; rw [← hq]
            by_cases h61 : i = 61
            · rw [h61]; rfl
            · rw [show 61 - i = 61 - (i + 1) + 1 from by omega, mCsL, if_neg (fun hc => by omega)]) rfl rfl
      · refine sw_aload_0 C dX6_commands_23 ?_
        refine sn_getI C fX6_47 rfl (by decide) rfl dX6_commands_24 ?_
        refine sn_if_ne C 64 (by omega) dX6_commands_27 (by decide) (fun c27 => ?_) (fun c27 => ?_)
        · refine sw_iload_1 C dX6_commands_64 ?_
          exact sn_iret C rfl hF dX6_commands_65 (by decide) (by decide) (by
              unfold mCs; rw [← hq]
              by_cases h61 : i = 61
              · rw [h61]; rfl
              · rw [show 61 - i = 61 - (i + 1) + 1 from by omega, mCsL, if_neg (fun hc => by omega)]) (by
              unfold mCs; rw [← hq]
              by_cases h61 : i = 61
              · rw [h61]; rfl
              · rw [show 61 - i = 61 - (i + 1) + 1 from by omega, mCsL, if_neg (fun hc => by omega)]) rfl rfl
        · refine sw_aload_0 C dX6_commands_30 ?_
          refine sn_getI C fX6_179 rfl (by decide) rfl dX6_commands_31 ?_
          refine sw_aload_0 C dX6_commands_34 ?_
          refine sn_getI C fX6_182 rfl (by decide) rfl dX6_commands_35 ?_
          refine sn_icmp_ge C 64 (by omega) (by omega) dX6_commands_38 (by decide) (fun c38 => ?_) (fun c38 => ?_)
          · refine sw_iload_1 C dX6_commands_64 ?_
            exact sn_iret C rfl hF dX6_commands_65 (by decide) (by decide) (by
                unfold mCs; rw [← hq]
                by_cases h61 : i = 61
                · rw [h61]; rfl
                · rw [show 61 - i = 61 - (i + 1) + 1 from by omega, mCsL, if_neg (fun hc => by omega)]) (by
                unfold mCs; rw [← hq]
                by_cases h61 : i = 61
                · rw [h61]; rfl
                · rw [show 61 - i = 61 - (i + 1) + 1 from by omega, mCsL, if_neg (fun hc => by omega)]) rfl rfl
          · obtain ⟨h, hh0⟩ : ∃ h, q 12 16 = h := ⟨_, rfl⟩
            have hnx := mNx_iv hiv (show q 12 16 < q 12 17 by omega)
            have hqr : q = mRd q h 0 (q 20) := by
              have h1 := mRd_self (S := q)
              rw [hh0, c20] at h1; exact h1.symm
            suffices hs : SN G X 0 0 41 [some (.ref 12), some (zi (i + 1))] [] (mRd q h 0 (q 20)) J E from by rw [← hqr] at hs; exact hs
            refine sw_aload_0 C dX6_commands_41 ?_
            refine sn_bipush C 59 (by decide) dX6_commands_42 ?_
            refine sn_cV1v C vX6_mark lX6_192 rfl (by decide) rfl rfl dX6_commands_44 (Nat.le_of_ble_eq_true rfl) (c_X6_mark hl qtx (show h ≤ q 12 17 by omega) (by decide)) (by decide) (by decide) (by decide) ?_
            refine sw_aload_0 C dX6_commands_47 ?_
            refine sn_getIe C (if mS q h = 59 then 0 else 1) (by split <;> rfl) fX6_185 rfl (by decide) rfl dX6_commands_48 ?_
            refine sn_if_ne C 58 (by split <;> decide) dX6_commands_51 (by decide) (fun c51 => ?_) (fun c51 => ?_)
            · have c51 : ¬ mS q h = 59 := fun hc => c51 (if_pos hc)
              rw [if_neg c51]
              refine sn_iinc_1 C rfl dX6_commands_58 ?_
              refine sw_goto C 16 dX6_commands_61 (by decide) ?_
              have hq2 : mCsL (61 - (i + 1)) (i + 1 + 1) (mNx q) = mCsL 61 1 (mCmE S (S 13 0) (S 13 1) 0) := by
                rw [show 61 - i = 61 - (i + 1) + 1 from by omega, mCsL, if_pos ⟨c20, c27, by omega⟩] at hq; exact hq
              have hb := ih16 (i + 1) (mNx q) (by omega) hnx.1 (by omega) hq2 (by omega)
              first
                | (rw [show mNx q = mCmE q (q 13 0) (q 13 1) (h + 1) from by unfold mNx; rw [hh0, if_pos c51]] at hb; exact hb)
                | (rw [show mNx q = mRd q h 1 (q 20) from by unfold mNx; rw [hh0, if_neg c51]] at hb; exact hb)
            · have c51 : mS q h = 59 := Classical.byContradiction (fun hc => absurd ((if_neg hc).symm.trans c51) (by decide))
              rw [if_pos c51]
              refine sw_aload_0 C dX6_commands_54 ?_
              refine sn_cV0v C vX6_command lX6_211 rfl (by decide) rfl rfl dX6_commands_55 (Nat.le_of_ble_eq_true rfl) (c_X6_command hl qm qtx qW (by omega) (show h + 1 ≤ q 12 17 by omega)) (by decide) (by decide) (by decide) ?_
              refine sn_iinc_1 C rfl dX6_commands_58 ?_
              refine sw_goto C 16 dX6_commands_61 (by decide) ?_
              have hq2 : mCsL (61 - (i + 1)) (i + 1 + 1) (mNx q) = mCsL 61 1 (mCmE S (S 13 0) (S 13 1) 0) := by
                rw [show 61 - i = 61 - (i + 1) + 1 from by omega, mCsL, if_pos ⟨c20, c27, by omega⟩] at hq; exact hq
              have hb := ih16 (i + 1) (mNx q) (by omega) hnx.1 (by omega) hq2 (by omega)
              first
                | (rw [show mNx q = mCmE q (q 13 0) (q 13 1) (h + 1) from by unfold mNx; rw [hh0, if_pos c51]] at hb; exact hb)
                | (rw [show mNx q = mRd q h 1 (q 20) from by unfold mNx; rw [hh0, if_neg c51]] at hb; exact hb)
  exact L16 _ 0 _ (by omega) hiv0.1 (Nat.zero_le _) rfl (Nat.lt_succ_self _)

/-- a script's run in the model -/
def mRn0 (S : zS) : zS := zU (zU (zU (mBeg S) 12 17 (S 12 15)) 12 15 0) 12 20 0
def mRn1 (S : zS) : Nat × zS := mCs (zU (mCs (mRn0 S)).2 12 20 1)
def mRn2 (S : zS) : zS := if (mRn1 S).2 12 0 = 0 then (mRn1 S).2 else zU (zU (mRn1 S).2 12 3 ((mRn1 S).1 - 1)) 12 0 2
def mRun (S : zS) : Nat × zS := if (mCs (mRn0 S)).2 12 19 = 0 then mEnd (mRn2 S) (mRn1 S).1 else mFl (zU (mCs (mRn0 S)).2 12 2 ((mCs (mRn0 S)).2 12 16)) 1
def mCh (S : zS) : Prop := S 12 15 ≤ 60 ∧ (∀ k, k < 60 → S 18 k < 65536) ∧ mWds S ∧ S 12 1 ≤ 8
theorem mRn0_o {S : zS} {a b : Nat} (h : a ≠ 14) (h2 : a ≠ 12) : mRn0 S a b = S a b := by
  unfold mRn0; rw [zU_o h2, zU_o h2, zU_o h2]; exact mBeg_o h (Or.inl h2)
theorem mRn0_ok {S : zS} (hm : mNw S) (hch : mCh S) : mNw (mRn0 S) ∧ mTx (mRn0 S) ∧ mWds (mRn0 S) ∧ mRn0 S 12 0 ≤ 3 ∧ mRn0 S 12 20 = 0 ∧ mRn0 S 12 1 ≤ 8 := by
  have e17 : mRn0 S 12 17 = S 12 15 := by unfold mRn0; rw [zU_j (by decide), zU_j (by decide), zU_s]
  refine ⟨mNow.nw (mNow_row (fun b _ => mRn0_o (by decide) (by decide)) hm), ⟨by rw [e17]; exact hch.1, fun k hk => by rw [mRn0_o (by decide) (by decide)]; exact hch.2.1 k hk⟩, hch.2.2.1.same (fun b => mRn0_o (by decide) (by decide)) (fun b => mRn0_o (by decide) (by decide)), ?_, ?_, ?_⟩
  · unfold mRn0; rw [zU_j (by decide), zU_j (by decide), zU_j (by decide), mBeg_12]; decide
  · unfold mRn0; rw [zU_s]
  · unfold mRn0; rw [zU_j (by decide), zU_j (by decide), zU_j (by decide), mBeg_o (by decide) (Or.inr (by decide))]; exact hch.2.2.2
theorem mCmE_12 {S : zS} {n t h b : Nat} (h1 : b ≠ 0) (h2 : b ≠ 16) (h3 : b ≠ 19) : mCmE S n t h 12 b = S 12 b := by
  obtain ⟨⟨w, x, y, p, wr, nf⟩, hC⟩ : ∃ T, mCm (mS S) h = T := ⟨_, rfl⟩
  rw [mCmE_of hC]
  split
  · rw [mDoes_o (by decide) (Or.inr h1)]; exact mRd_12 h2 h3
  · exact mRd_12 h2 h3
theorem mNx_12 {Q : zS} {b : Nat} (h1 : b ≠ 0) (h2 : b ≠ 16) (h3 : b ≠ 19) : mNx Q 12 b = Q 12 b := by
  unfold mNx; split
  · exact mCmE_12 h1 h2 h3
  · exact mRd_12 h2 h3
theorem mCsL_12 {b : Nat} (h1 : b ≠ 0) (h2 : b ≠ 16) (h3 : b ≠ 19) : ∀ (k c : Nat) (Q : zS), (mCsL k c Q).2 12 b = Q 12 b := by
  intro k
  induction k with
  | zero => intro c Q; rfl
  | succ k ih =>
    intro c Q
    rw [mCsL]; split
    · exact (ih _ _).trans (mNx_12 h1 h2 h3)
    · rfl
theorem mCs_12 {S : zS} {b : Nat} (h1 : b ≠ 0) (h2 : b ≠ 16) (h3 : b ≠ 19) : (mCs S).2 12 b = S 12 b := (mCsL_12 h1 h2 h3 _ _ _).trans (mCmE_12 h1 h2 h3)
theorem mCs_iv {S : zS} (hm : mNw S) (htx : mTx S) (hW : mWds S) (h0 : S 12 0 ≤ 3) (h20 : S 12 20 ≤ 1) : mIv (mCs S).2 ∧ 1 ≤ (mCs S).1 ∧ (mCs S).1 ≤ 62 := by
  have h := mCmE_iv hm htx hW (Nat.zero_le (S 12 17)) h0 h20
  have h2 := mCsL_iv 61 1 (mCmE S (S 13 0) (S 13 1) 0) h.1
  exact ⟨h2.1, h2.2.2.1, by unfold mCs; omega⟩

set_option maxRecDepth 100000 in
set_option maxHeartbeats 4000000 in
theorem c1_X6_runScript {l : Launch} (hl : l.stackTraces = false) {G : zG} {S : zS} {J : Int64} {E : UInt64} (hm : mNw S) (hch : mCh S) (hw : ¬ (mCs (mRn0 S)).2 12 19 = 0) : nCR l G mX6_runScript 11 0 0 [.ref 12] S J E (some (zi (mRun S).1)) (mRun S).2 J E := by
  refine nCR.of hl (by decide) rfl (Nat.le_of_ble_eq_true rfl) (ls := [some (.ref 12), none]) rfl (fun X C hF hX => ?_)
  subst hX
  obtain ⟨aN, aT, aW, a0, a20, a1⟩ := mRn0_ok hm hch
  have hA := mCs_iv aN aT aW a0 (by omega)
  obtain ⟨⟨c1, B⟩, hB⟩ : ∃ T, mCs (mRn0 S) = T := ⟨_, rfl⟩
  have hB1 : B 12 1 ≤ 8 := by
    have h := mCs_12 (S := mRn0 S) (b := 1) (by decide) (by decide) (by decide)
    rw [hB] at h; rw [show B 12 1 = mRn0 S 12 1 from h]; exact a1
  have hcB := c_X6_commands hl (G := G) (J := J) (E := E) aN aT aW a0 (by omega)
  rw [hB] at hA hcB
  obtain ⟨⟨bN, bT, bW, bh, bw, b0, b20⟩, hc1, hc2⟩ := hA
  rw [hB] at hw
  dsimp only at hw bw
  refine sw_aload_0 C dX6_runScript_0 ?_
  refine sn_cV0v C vX6_begins lX6_76 rfl (by decide) rfl rfl dX6_runScript_1 (Nat.le_of_ble_eq_true rfl) (c_X6_begins hl) (by decide) (by decide) (by decide) ?_
  refine sw_aload_0 C dX6_runScript_4 ?_
  refine sw_aload_0 C dX6_runScript_5 ?_
  refine sn_getIe C (S 12 15) (mBeg_o (by decide) (Or.inr (by decide))) fX6_176 rfl (by decide) rfl dX6_runScript_6 ?_
  refine sn_putI C fX6_182 rfl (by decide) rfl rfl dX6_runScript_9 ?_
  refine sw_aload_0 C dX6_runScript_12 ?_
  refine sn_iconst C 0 (by decide) dX6_runScript_13 ?_
  refine sn_putI C fX6_176 rfl (by decide) rfl rfl dX6_runScript_14 ?_
  refine sw_aload_0 C dX6_runScript_17 ?_
  refine sn_iconst C 0 (by decide) dX6_runScript_18 ?_
  refine sn_putZN C (by decide) fX6_204 rfl (by decide) rfl rfl dX6_runScript_19 ?_
  refine sw_aload_0 C dX6_runScript_22 ?_
  refine sn_cV0r C vX6_commands lX6_214 rfl (by decide) rfl rfl dX6_runScript_23 (Nat.le_of_ble_eq_true rfl) (hcB) (by decide) (by decide) (by decide) ?_
  refine sw_istore_1 C rfl dX6_runScript_26 ?_
  refine sw_aload_0 C dX6_runScript_27 ?_
  refine sn_getIe C (B 12 19) rfl fX6_185 rfl (by decide) rfl dX6_runScript_28 ?_
  refine sn_if_eq C 48 (by omega) dX6_runScript_31 (by decide) (fun c31 => ?_) (fun c31 => ?_)
  · exact absurd c31 hw
  · refine sw_aload_0 C dX6_runScript_34 ?_
    refine sw_aload_0 C dX6_runScript_35 ?_
    refine sn_getIe C (B 12 16) rfl fX6_179 rfl (by decide) rfl dX6_runScript_36 ?_
    refine sn_putI C fX6_7 rfl (by decide) rfl rfl dX6_runScript_39 ?_
    refine sw_aload_0 C dX6_runScript_42 ?_
    refine sn_iconst C 1 (by decide) dX6_runScript_43 ?_
    refine sn_cV1r C vX6_fail lX6_72 rfl (by decide) rfl rfl dX6_runScript_44 (Nat.le_of_ble_eq_true rfl) (c_X6_fail hl) (by decide) (by decide) (by decide) ?_
    exact sn_iret C rfl hF dX6_runScript_47 (by decide) (by decide) (by unfold mRun; rw [hB, if_neg hw]; rfl) (by unfold mRun; rw [hB, if_neg hw]; rfl) rfl rfl

set_option maxRecDepth 100000 in
set_option maxHeartbeats 4000000 in
theorem c2_X6_runScript {l : Launch} (hl : l.stackTraces = false) {G : zG} {S : zS} {J : Int64} {E : UInt64} (hm : mNw S) (hch : mCh S) (hw : (mCs (mRn0 S)).2 12 19 = 0) : nCR l G mX6_runScript 11 0 0 [.ref 12] S J E (some (zi (mRun S).1)) (mRun S).2 J E := by
  refine nCR.of hl (by decide) rfl (Nat.le_of_ble_eq_true rfl) (ls := [some (.ref 12), none]) rfl (fun X C hF hX => ?_)
  subst hX
  obtain ⟨aN, aT, aW, a0, a20, a1⟩ := mRn0_ok hm hch
  have hA := mCs_iv aN aT aW a0 (by omega)
  obtain ⟨⟨c1, B⟩, hB⟩ : ∃ T, mCs (mRn0 S) = T := ⟨_, rfl⟩
  have hB1 : B 12 1 ≤ 8 := by
    have h := mCs_12 (S := mRn0 S) (b := 1) (by decide) (by decide) (by decide)
    rw [hB] at h; rw [show B 12 1 = mRn0 S 12 1 from h]; exact a1
  have hcB := c_X6_commands hl (G := G) (J := J) (E := E) aN aT aW a0 (by omega)
  rw [hB] at hA hcB
  obtain ⟨⟨bN, bT, bW, bh, bw, b0, b20⟩, hc1, hc2⟩ := hA
  rw [hB] at hw
  dsimp only at hw
  have b20' : (zU B 12 20 1) 12 20 ≤ 1 := by rw [zU_s]; decide
  have bN' : mNw (zU B 12 20 1) := mNow.nw (mNow_row (fun b _ => zU_o (by decide)) bN)
  have bT' : mTx (zU B 12 20 1) := bT.same (zU_j (by decide)) (fun b => zU_o (by decide))
  have bW' : mWds (zU B 12 20 1) := bW.same (fun b => zU_o (by decide)) (fun b => zU_o (by decide))
  have b0' : (zU B 12 20 1) 12 0 ≤ 3 := by rw [zU_j (by decide)]; exact b0
  have hA2 := mCs_iv bN' bT' bW' b0' b20'
  obtain ⟨⟨c2, D⟩, hD⟩ : ∃ T, mCs (zU B 12 20 1) = T := ⟨_, rfl⟩
  have hcD := c_X6_commands hl (G := G) (J := J) (E := E) bN' bT' bW' b0' b20'
  have hD1 : D 12 1 ≤ 8 := by
    have h := mCs_12 (S := zU B 12 20 1) (b := 1) (by decide) (by decide) (by decide)
    rw [hD] at h; rw [show D 12 1 = zU B 12 20 1 12 1 from h, zU_j (by decide)]; exact hB1
  rw [hD] at hA2 hcD
  obtain ⟨⟨dN, dT, dW, dh, dw, d0, d20⟩, hc3, hc4⟩ := hA2
  have hR1 : mRn1 S = (c2, D) := by unfold mRn1; rw [hB]; exact hD
  have hRun : mRun S = mEnd (mRn2 S) (mRn1 S).1 := by unfold mRun; rw [hB, if_pos hw]
  have hR2 : mRn2 S = if D 12 0 = 0 then D else zU (zU D 12 3 (c2 - 1)) 12 0 2 := by unfold mRn2; rw [hR1]
  rw [hR1] at hRun
  dsimp only at hRun hc3 hc4 d0
  refine sw_aload_0 C dX6_runScript_0 ?_
  refine sn_cV0v C vX6_begins lX6_76 rfl (by decide) rfl rfl dX6_runScript_1 (Nat.le_of_ble_eq_true rfl) (c_X6_begins hl) (by decide) (by decide) (by decide) ?_
  refine sw_aload_0 C dX6_runScript_4 ?_
  refine sw_aload_0 C dX6_runScript_5 ?_
  refine sn_getIe C (S 12 15) (mBeg_o (by decide) (Or.inr (by decide))) fX6_176 rfl (by decide) rfl dX6_runScript_6 ?_
  refine sn_putI C fX6_182 rfl (by decide) rfl rfl dX6_runScript_9 ?_
  refine sw_aload_0 C dX6_runScript_12 ?_
  refine sn_iconst C 0 (by decide) dX6_runScript_13 ?_
  refine sn_putI C fX6_176 rfl (by decide) rfl rfl dX6_runScript_14 ?_
  refine sw_aload_0 C dX6_runScript_17 ?_
  refine sn_iconst C 0 (by decide) dX6_runScript_18 ?_
  refine sn_putZN C (by decide) fX6_204 rfl (by decide) rfl rfl dX6_runScript_19 ?_
  refine sw_aload_0 C dX6_runScript_22 ?_
  refine sn_cV0r C vX6_commands lX6_214 rfl (by decide) rfl rfl dX6_runScript_23 (Nat.le_of_ble_eq_true rfl) (hcB) (by decide) (by decide) (by decide) ?_
  refine sw_istore_1 C rfl dX6_runScript_26 ?_
  refine sw_aload_0 C dX6_runScript_27 ?_
  refine sn_getIe C (B 12 19) rfl fX6_185 rfl (by decide) rfl dX6_runScript_28 ?_
  refine sn_if_eq C 48 (by omega) dX6_runScript_31 (by decide) (fun c31 => ?_) (fun c31 => ?_)
  · refine sw_aload_0 C dX6_runScript_48 ?_
    refine sn_iconst C 1 (by decide) dX6_runScript_49 ?_
    refine sn_putZN C (by decide) fX6_204 rfl (by decide) rfl rfl dX6_runScript_50 ?_
    refine sw_aload_0 C dX6_runScript_53 ?_
    refine sn_cV0r C vX6_commands lX6_214 rfl (by decide) rfl rfl dX6_runScript_54 (Nat.le_of_ble_eq_true rfl) (hcD) (by decide) (by decide) (by decide) ?_
    refine sw_istore_1 C rfl dX6_runScript_57 ?_
    refine sw_aload_0 C dX6_runScript_58 ?_
    refine sn_getIe C (D 12 0) rfl fX6_47 rfl (by decide) rfl dX6_runScript_59 ?_
    refine sn_if_eq C 77 (by omega) dX6_runScript_62 (by decide) (fun c62 => ?_) (fun c62 => ?_)
    · refine sw_aload_0 C dX6_runScript_77 ?_
      refine sw_iload_1 C dX6_runScript_78 ?_
      refine sn_cV1r C vX6_ends lX6_82 rfl (by decide) rfl rfl dX6_runScript_79 (Nat.le_of_ble_eq_true rfl) (c_X6_ends hl (by first | (rw [zU_s]; decide) | (show D 12 0 < 2 ^ 32; omega)) (by first | (rw [zU_j (by decide), zU_j (by decide)]; exact hD1) | exact hD1)) (by decide) (by decide) (by decide) ?_
      exact sn_iret C rfl hF dX6_runScript_82 (by decide) (by decide) (by rw [hRun, hR2]; first | (rw [if_pos c62]; done) | (rw [if_neg c62]; done)) (by rw [hRun, hR2]; first | (rw [if_pos c62]; done) | (rw [if_neg c62]; done)) rfl rfl
    · refine sw_aload_0 C dX6_runScript_65 ?_
      refine sw_iload_1 C dX6_runScript_66 ?_
      refine sn_iconst C 1 (by decide) dX6_runScript_67 ?_
      refine sn_isub C (by omega) dX6_runScript_68 ?_
      refine sn_putI C fX6_13 rfl (by decide) rfl rfl dX6_runScript_69 ?_
      refine sw_aload_0 C dX6_runScript_72 ?_
      refine sn_iconst C 2 (by decide) dX6_runScript_73 ?_
      refine sn_putI C fX6_47 rfl (by decide) rfl rfl dX6_runScript_74 ?_
      refine sw_aload_0 C dX6_runScript_77 ?_
      refine sw_iload_1 C dX6_runScript_78 ?_
      refine sn_cV1r C vX6_ends lX6_82 rfl (by decide) rfl rfl dX6_runScript_79 (Nat.le_of_ble_eq_true rfl) (c_X6_ends hl (by first | (rw [zU_s]; decide) | (show D 12 0 < 2 ^ 32; omega)) (by first | (rw [zU_j (by decide), zU_j (by decide)]; exact hD1) | exact hD1)) (by decide) (by decide) (by decide) ?_
      exact sn_iret C rfl hF dX6_runScript_82 (by decide) (by decide) (by rw [hRun, hR2]; first | (rw [if_pos c62]; done) | (rw [if_neg c62]; done)) (by rw [hRun, hR2]; first | (rw [if_pos c62]; done) | (rw [if_neg c62]; done)) rfl rfl
  · exact absurd hw c31

theorem c_X6_runScript {l : Launch} (hl : l.stackTraces = false) {G : zG} {S : zS} {J : Int64} {E : UInt64} (hm : mNw S) (hch : mCh S) : nCR l G mX6_runScript 11 0 0 [.ref 12] S J E (some (zi (mRun S).1)) (mRun S).2 J E := by
  by_cases hw : (mCs (mRn0 S)).2 12 19 = 0
  · exact c2_X6_runScript hl hm hch hw
  · exact c1_X6_runScript hl hm hch hw
