/-! doing a command, reading one -/
def mDoes (S : zS) (n t w x y : Nat) : Nat × zS := match w with
  | 0 => mAdds S n x y
  | 1 => mJoins S n x y
  | 2 => mCuts S n x y
  | 3 => mStarts S n t x y
  | 4 => mChecks S n t x y
  | 5 => mDenies S t x
  | 6 => mAnswers S t x y
  | 7 => mMoves S n x y
  | _ => mPasses S n t x

set_option maxRecDepth 100000 in
set_option maxHeartbeats 4000000 in
theorem c0_X6_does {l : Launch} (hl : l.stackTraces = false) {G : zG} {S : zS} {J : Int64} {E : UInt64} {n t : Nat} (hm : mNow S n t) {x y : Nat} (hx : x < 2 ^ 32) (hy : y < 2 ^ 32) : nCR l G mX6_does 7 0 0 [.ref 12, zi 0, zi x, zi y] S J E (some (zi (mDoes S n t 0 x y).1)) (mDoes S n t 0 x y).2 J E := by
  refine nCR.of hl (by decide) rfl (Nat.le_of_ble_eq_true rfl) (ls := [some (.ref 12), some (zi 0), some (zi x), some (zi y)]) rfl (fun X C hF hX => ?_)
  subst hX
  obtain ⟨hn, hz, ht, ht4, hls, hrs⟩ := id hm
  refine sw_iload_1 C dX6_does_0 ?_
  refine sw_tableIn C (off := 47) 48 dX6_does_1 (by decide) (by decide) (by decide +kernel) (by decide) ?_
  refine sw_aload_0 C dX6_does_48 ?_
  refine sw_iload_2 C dX6_does_49 ?_
  refine sw_iload_3 C dX6_does_50 ?_
  refine sn_cV2r C vX6_adds lX6_79 rfl (by decide) rfl rfl dX6_does_51 (Nat.le_of_ble_eq_true rfl) (c_X6_adds hl hn hz hx hy) (by decide) (by decide) (by decide) ?_
  exact sn_iret C rfl hF dX6_does_54 (by decide) (by decide) (by rfl) rfl rfl rfl

set_option maxRecDepth 100000 in
set_option maxHeartbeats 4000000 in
theorem c1_X6_does {l : Launch} (hl : l.stackTraces = false) {G : zG} {S : zS} {J : Int64} {E : UInt64} {n t : Nat} (hm : mNow S n t) {x y : Nat} (hx : x < 2 ^ 32) (hy : y < 2 ^ 32) : nCR l G mX6_does 7 0 0 [.ref 12, zi 1, zi x, zi y] S J E (some (zi (mDoes S n t 1 x y).1)) (mDoes S n t 1 x y).2 J E := by
  refine nCR.of hl (by decide) rfl (Nat.le_of_ble_eq_true rfl) (ls := [some (.ref 12), some (zi 1), some (zi x), some (zi y)]) rfl (fun X C hF hX => ?_)
  subst hX
  obtain ⟨hn, hz, ht, ht4, hls, hrs⟩ := id hm
  refine sw_iload_1 C dX6_does_0 ?_
  refine sw_tableIn C (off := 54) 55 dX6_does_1 (by decide) (by decide) (by decide +kernel) (by decide) ?_
  refine sw_aload_0 C dX6_does_55 ?_
  refine sw_iload_2 C dX6_does_56 ?_
  refine sw_iload_3 C dX6_does_57 ?_
  refine sn_cV2r C vX6_joins lX6_103 rfl (by decide) rfl rfl dX6_does_58 (Nat.le_of_ble_eq_true rfl) (c_X6_joins hl hn hz (fun e he => (hls e he).2.2) hx hy) (by decide) (by decide) (by decide) ?_
  exact sn_iret C rfl hF dX6_does_61 (by decide) (by decide) (by rfl) rfl rfl rfl

set_option maxRecDepth 100000 in
set_option maxHeartbeats 4000000 in
theorem c2_X6_does {l : Launch} (hl : l.stackTraces = false) {G : zG} {S : zS} {J : Int64} {E : UInt64} {n t : Nat} (hm : mNow S n t) {x y : Nat} (hx : x < 2 ^ 32) (hy : y < 2 ^ 32) : nCR l G mX6_does 7 0 0 [.ref 12, zi 2, zi x, zi y] S J E (some (zi (mDoes S n t 2 x y).1)) (mDoes S n t 2 x y).2 J E := by
  refine nCR.of hl (by decide) rfl (Nat.le_of_ble_eq_true rfl) (ls := [some (.ref 12), some (zi 2), some (zi x), some (zi y)]) rfl (fun X C hF hX => ?_)
  subst hX
  obtain ⟨hn, hz, ht, ht4, hls, hrs⟩ := id hm
  refine sw_iload_1 C dX6_does_0 ?_
  refine sw_tableIn C (off := 61) 62 dX6_does_1 (by decide) (by decide) (by decide +kernel) (by decide) ?_
  refine sw_aload_0 C dX6_does_62 ?_
  refine sw_iload_2 C dX6_does_63 ?_
  refine sw_iload_3 C dX6_does_64 ?_
  refine sn_cV2r C vX6_cuts lX6_106 rfl (by decide) rfl rfl dX6_does_65 (Nat.le_of_ble_eq_true rfl) (c_X6_cuts hl hn hz (fun e he => (hls e he).2.2) hx hy) (by decide) (by decide) (by decide) ?_
  exact sn_iret C rfl hF dX6_does_68 (by decide) (by decide) (by rfl) rfl rfl rfl

set_option maxRecDepth 100000 in
set_option maxHeartbeats 4000000 in
theorem c3_X6_does {l : Launch} (hl : l.stackTraces = false) {G : zG} {S : zS} {J : Int64} {E : UInt64} {n t : Nat} (hm : mNow S n t) {x y : Nat} (hx : x < 2 ^ 32) (hy : y < 2 ^ 32) : nCR l G mX6_does 7 0 0 [.ref 12, zi 3, zi x, zi y] S J E (some (zi (mDoes S n t 3 x y).1)) (mDoes S n t 3 x y).2 J E := by
  refine nCR.of hl (by decide) rfl (Nat.le_of_ble_eq_true rfl) (ls := [some (.ref 12), some (zi 3), some (zi x), some (zi y)]) rfl (fun X C hF hX => ?_)
  subst hX
  obtain ⟨hn, hz, ht, ht4, hls, hrs⟩ := id hm
  refine sw_iload_1 C dX6_does_0 ?_
  refine sw_tableIn C (off := 68) 69 dX6_does_1 (by decide) (by decide) (by decide +kernel) (by decide) ?_
  refine sw_aload_0 C dX6_does_69 ?_
  refine sw_iload_2 C dX6_does_70 ?_
  refine sw_iload_3 C dX6_does_71 ?_
  refine sn_cV2r C vX6_starts lX6_112 rfl (by decide) rfl rfl dX6_does_72 (Nat.le_of_ble_eq_true rfl) (c_X6_starts hl hm hx hy) (by decide) (by decide) (by decide) ?_
  exact sn_iret C rfl hF dX6_does_75 (by decide) (by decide) (by rfl) rfl rfl rfl

set_option maxRecDepth 100000 in
set_option maxHeartbeats 4000000 in
theorem c4_X6_does {l : Launch} (hl : l.stackTraces = false) {G : zG} {S : zS} {J : Int64} {E : UInt64} {n t : Nat} (hm : mNow S n t) {x y : Nat} (hx : x < 2 ^ 32) (hy : y < 2 ^ 32) : nCR l G mX6_does 7 0 0 [.ref 12, zi 4, zi x, zi y] S J E (some (zi (mDoes S n t 4 x y).1)) (mDoes S n t 4 x y).2 J E := by
  refine nCR.of hl (by decide) rfl (Nat.le_of_ble_eq_true rfl) (ls := [some (.ref 12), some (zi 4), some (zi x), some (zi y)]) rfl (fun X C hF hX => ?_)
  subst hX
  obtain ⟨hn, hz, ht, ht4, hls, hrs⟩ := id hm
  refine sw_iload_1 C dX6_does_0 ?_
  refine sw_tableIn C (off := 75) 76 dX6_does_1 (by decide) (by decide) (by decide +kernel) (by decide) ?_
  refine sw_aload_0 C dX6_does_76 ?_
  refine sw_iload_2 C dX6_does_77 ?_
  refine sw_iload_3 C dX6_does_78 ?_
  refine sn_cV2r C vX6_checks lX6_118 rfl (by decide) rfl rfl dX6_does_79 (Nat.le_of_ble_eq_true rfl) (c_X6_checks hl hm hx hy) (by decide) (by decide) (by decide) ?_
  exact sn_iret C rfl hF dX6_does_82 (by decide) (by decide) (by rfl) rfl rfl rfl

set_option maxRecDepth 100000 in
set_option maxHeartbeats 4000000 in
theorem c5_X6_does {l : Launch} (hl : l.stackTraces = false) {G : zG} {S : zS} {J : Int64} {E : UInt64} {n t : Nat} (hm : mNow S n t) {x y : Nat} (hx : x < 2 ^ 32) (hy : y < 2 ^ 32) : nCR l G mX6_does 7 0 0 [.ref 12, zi 5, zi x, zi y] S J E (some (zi (mDoes S n t 5 x y).1)) (mDoes S n t 5 x y).2 J E := by
  refine nCR.of hl (by decide) rfl (Nat.le_of_ble_eq_true rfl) (ls := [some (.ref 12), some (zi 5), some (zi x), some (zi y)]) rfl (fun X C hF hX => ?_)
  subst hX
  obtain ⟨hn, hz, ht, ht4, hls, hrs⟩ := id hm
  refine sw_iload_1 C dX6_does_0 ?_
  refine sw_tableIn C (off := 82) 83 dX6_does_1 (by decide) (by decide) (by decide +kernel) (by decide) ?_
  refine sw_aload_0 C dX6_does_83 ?_
  refine sw_iload_2 C dX6_does_84 ?_
  refine sn_cV1r C vX6_denies lX6_121 rfl (by decide) rfl rfl dX6_does_85 (Nat.le_of_ble_eq_true rfl) (c_X6_denies hl hm hx) (by decide) (by decide) (by decide) ?_
  exact sn_iret C rfl hF dX6_does_88 (by decide) (by decide) (by rfl) rfl rfl rfl

set_option maxRecDepth 100000 in
set_option maxHeartbeats 4000000 in
theorem c6_X6_does {l : Launch} (hl : l.stackTraces = false) {G : zG} {S : zS} {J : Int64} {E : UInt64} {n t : Nat} (hm : mNow S n t) {x y : Nat} (hx : x < 2 ^ 32) (hy : y < 2 ^ 32) : nCR l G mX6_does 7 0 0 [.ref 12, zi 6, zi x, zi y] S J E (some (zi (mDoes S n t 6 x y).1)) (mDoes S n t 6 x y).2 J E := by
  refine nCR.of hl (by decide) rfl (Nat.le_of_ble_eq_true rfl) (ls := [some (.ref 12), some (zi 6), some (zi x), some (zi y)]) rfl (fun X C hF hX => ?_)
  subst hX
  obtain ⟨hn, hz, ht, ht4, hls, hrs⟩ := id hm
  refine sw_iload_1 C dX6_does_0 ?_
  refine sw_tableIn C (off := 88) 89 dX6_does_1 (by decide) (by decide) (by decide +kernel) (by decide) ?_
  refine sw_aload_0 C dX6_does_89 ?_
  refine sw_iload_2 C dX6_does_90 ?_
  refine sw_iload_3 C dX6_does_91 ?_
  refine sn_cV2r C vX6_answers lX6_124 rfl (by decide) rfl rfl dX6_does_92 (Nat.le_of_ble_eq_true rfl) (c_X6_answers hl hm hx hy) (by decide) (by decide) (by decide) ?_
  exact sn_iret C rfl hF dX6_does_95 (by decide) (by decide) (by rfl) rfl rfl rfl

set_option maxRecDepth 100000 in
set_option maxHeartbeats 4000000 in
theorem c7_X6_does {l : Launch} (hl : l.stackTraces = false) {G : zG} {S : zS} {J : Int64} {E : UInt64} {n t : Nat} (hm : mNow S n t) {x y : Nat} (hx : x < 2 ^ 32) (hy : y < 2 ^ 32) : nCR l G mX6_does 7 0 0 [.ref 12, zi 7, zi x, zi y] S J E (some (zi (mDoes S n t 7 x y).1)) (mDoes S n t 7 x y).2 J E := by
  refine nCR.of hl (by decide) rfl (Nat.le_of_ble_eq_true rfl) (ls := [some (.ref 12), some (zi 7), some (zi x), some (zi y)]) rfl (fun X C hF hX => ?_)
  subst hX
  obtain ⟨hn, hz, ht, ht4, hls, hrs⟩ := id hm
  refine sw_iload_1 C dX6_does_0 ?_
  refine sw_tableIn C (off := 95) 96 dX6_does_1 (by decide) (by decide) (by decide +kernel) (by decide) ?_
  refine sw_aload_0 C dX6_does_96 ?_
  refine sw_iload_2 C dX6_does_97 ?_
  refine sw_iload_3 C dX6_does_98 ?_
  refine sn_cV2r C vX6_moves lX6_109 rfl (by decide) rfl rfl dX6_does_99 (Nat.le_of_ble_eq_true rfl) (c_X6_moves hl hm hx hy) (by decide) (by decide) (by decide) ?_
  exact sn_iret C rfl hF dX6_does_102 (by decide) (by decide) (by rfl) rfl rfl rfl

set_option maxRecDepth 100000 in
set_option maxHeartbeats 4000000 in
theorem c8_X6_does {l : Launch} (hl : l.stackTraces = false) {G : zG} {S : zS} {J : Int64} {E : UInt64} {n t : Nat} (hm : mNow S n t) {x y : Nat} (hx : x < 2 ^ 32) (hy : y < 2 ^ 32) : nCR l G mX6_does 7 0 0 [.ref 12, zi 8, zi x, zi y] S J E (some (zi (mDoes S n t 8 x y).1)) (mDoes S n t 8 x y).2 J E := by
  refine nCR.of hl (by decide) rfl (Nat.le_of_ble_eq_true rfl) (ls := [some (.ref 12), some (zi 8), some (zi x), some (zi y)]) rfl (fun X C hF hX => ?_)
  subst hX
  obtain ⟨hn, hz, ht, ht4, hls, hrs⟩ := id hm
  refine sw_iload_1 C dX6_does_0 ?_
  refine sw_tableOut C 103 dX6_does_1 (by decide) (by decide) ?_
  refine sw_aload_0 C dX6_does_103 ?_
  refine sw_iload_2 C dX6_does_104 ?_
  refine sn_cV1r C vX6_passes lX6_142 rfl (by decide) rfl rfl dX6_does_105 (Nat.le_of_ble_eq_true rfl) (c_X6_passes hl hm hx) (by decide) (by decide) (by decide) ?_
  exact sn_iret C rfl hF dX6_does_108 (by decide) (by decide) (by rfl) rfl rfl rfl

theorem c_X6_does {l : Launch} (hl : l.stackTraces = false) {G : zG} {S : zS} {J : Int64} {E : UInt64} {n t : Nat} (hm : mNow S n t) {w : Nat} (hw : w < 9) {x y : Nat} (hx : x < 2 ^ 32) (hy : y < 2 ^ 32) : nCR l G mX6_does 7 0 0 [.ref 12, zi w, zi x, zi y] S J E (some (zi (mDoes S n t w x y).1)) (mDoes S n t w x y).2 J E := by
  match w, hw with
  | 0, _ => exact c0_X6_does hl hm hx hy
  | 1, _ => exact c1_X6_does hl hm hx hy
  | 2, _ => exact c2_X6_does hl hm hx hy
  | 3, _ => exact c3_X6_does hl hm hx hy
  | 4, _ => exact c4_X6_does hl hm hx hy
  | 5, _ => exact c5_X6_does hl hm hx hy
  | 6, _ => exact c6_X6_does hl hm hx hy
  | 7, _ => exact c7_X6_does hl hm hx hy
  | 8, _ => exact c8_X6_does hl hm hx hy

theorem c_X6_word_of {l : Launch} (hl : l.stackTraces = false) {G : zG} {S : zS} {J : Int64} {E : UInt64} (htx : mTx S) (hW : mWds S) {h : Nat} (hh : h ≤ S 12 17) {L : Nat → Nat} {w p1 wr nf : Nat} (hr : mWd (mS S) h 8 0 = (w, p1, wr, nf)) : nCR l G mX6_word 1 0 0 [.ref 12] (mRd S h 0 L) J E (some (zi w)) (mRd S p1 wr (mWL (mS S) h nf)) J E := by
  have h := c_X6_word hl (G := G) (J := J) (E := E) htx hW hh (L := L)
  rw [hr] at h; exact h
theorem c_X6_digits_of {l : Launch} (hl : l.stackTraces = false) {G : zG} {S : zS} {J : Int64} {E : UInt64} (htx : mTx S) {h : Nat} (hh : h ≤ S 12 17) {L : Nat → Nat} {k0 : Nat} (hk0 : k0 ≤ 2) {p v : Nat} (hr : mDg (mS S) k0 h 0 = (p, v)) : nCR l G mX6_digits 2 0 0 [.ref 12, zi k0] (mRd S h 0 L) J E (some (zi v)) (mRd S p (if p = h then 1 else 0) L) J E := by
  have h := c_X6_digits hl (G := G) (J := J) (E := E) htx hh (L := L) hk0
  rw [hr] at h; exact h
theorem c_X6_behind_of {l : Launch} (hl : l.stackTraces = false) {G : zG} {S : zS} {J : Int64} {E : UInt64} (htx : mTx S) {h : Nat} (hh : h ≤ S 12 17) {L : Nat → Nat} {k0 : Nat} (hk0 : k0 ≤ 2) {v p wr : Nat} (hr : mBh (mS S) k0 h = (v, p, wr)) : nCR l G mX6_behind 3 0 0 [.ref 12, zi k0] (mRd S h 0 L) J E (some (zi v)) (mRd S p wr L) J E := by
  have h := c_X6_behind hl (G := G) (J := J) (E := E) htx hh (L := L) hk0
  rw [hr] at h; exact h
theorem mWd_ok {sg : Nat → Nat} {p : Nat} : ∀ (k n : Nat), ((mWd sg p k n).2.2.1 = 0 ∧ (mWd sg p k n).1 < 9) ∨ ((mWd sg p k n).2.2.1 = 1 ∧ (mWd sg p k n).1 = 4294967295) := by
  intro k
  induction k with
  | zero => intro n; exact Or.inr ⟨rfl, rfl⟩
  | succ k ih =>
    intro n
    rw [mWd]
    split
    · exact Or.inr ⟨rfl, rfl⟩
    · split
      · rename_i h
        refine Or.inl ⟨rfl, ?_⟩
        rcases wIs_lt (sg := sg) (p := p) (n := n + 1) (Nat.le_refl 9) with h2 | h2
        · exact h2
        · exfalso
          have h3 : wIs sg p (n + 1) = 4294967295 := h2
          omega
      · exact ih (n + 1)
theorem mWd_len {S : zS} {p : Nat} (hp : p ≤ S 12 17) : ∀ (k n : Nat), p + n ≤ S 12 17 → (mWd (mS S) p k n).2.1 ≤ S 12 17 := by
  intro k
  induction k with
  | zero => intro n hn; exact hn
  | succ k ih =>
    intro n hn
    rw [mWd]
    split
    · exact hn
    · rename_i h0
      have hlt : p + n < S 12 17 := by
        apply Classical.byContradiction
        intro hcon
        have e9 : mS S (p + n) = 4294967295 := by unfold mS; rw [if_neg (by omega)]
        exact h0 (zIt_inv (fun m => m = 0) rfl (fun w m hw hm => by
          try dsimp only
          have h1 : wM (mS S) p w (n + 1) = false := by
            rw [wM, e9]
            by_cases h47 : wA w + n < wA (w + 1)
            · have := wW_lt (show wA w + n < 47 by have := (wA_le hw).1; omega)
              rw [decide_eq_false (show ¬ wW (wA w + n) = 4294967295 by omega)]; simp
            · rw [decide_eq_false h47]; simp
          rw [hm, h1]; rfl))
      split
      · exact hlt
      · exact ih (n + 1) hlt
theorem mBh_len {S : zS} {k h : Nat} (hh : h ≤ S 12 17) : (mBh (mS S) k h).2.1 ≤ S 12 17 ∧ (mBh (mS S) k h).2.2 ≤ 1 ∧ (mBh (mS S) k h).1 < 1 * 10 ^ k := by
  unfold mBh
  split
  · rename_i h0
    have hlt : h + 1 ≤ S 12 17 := by
      apply Classical.byContradiction
      intro hcon
      have e9 : mS S h = 4294967295 := by unfold mS; rw [if_neg (by omega)]
      rw [e9] at h0; exact absurd h0 (by decide)
    exact ⟨mDg_len _ _ _ hlt, by (try dsimp only); split <;> omega, mDg_val _ _ _⟩
  · exact ⟨hh, Nat.le_refl 1, Nat.pos_of_ne_zero (by simp [Nat.pow_eq_zero])⟩
/-- digits of a word's first number, of its second (0: none) -/
def mK1 (w : Nat) : Nat := if w = 0 ∨ (4 ≤ w ∧ w ≤ 6) then 1 else 2
def mK2 (w : Nat) : Nat := if w = 1 ∨ w = 2 ∨ w = 4 then 2 else 1
/-- a command read: word, first, second, place, wrong, letters tried -/
def mCm (sg : Nat → Nat) (h : Nat) : Nat × Nat × Nat × Nat × Nat × Nat :=
  match mWd sg h 8 0 with
  | (w, p1, wr, nf) =>
    if wr = 0 then
      (if w = 8 then (if sg p1 = 32 then (8, (mBh sg 2 p1).1, 0, (mBh sg 2 p1).2.1, (mBh sg 2 p1).2.2, nf) else (8, 1, 0, p1, 0, nf))
       else if w = 5 ∨ (mDg sg (mK1 w) p1 0).1 = p1 then (w, (mDg sg (mK1 w) p1 0).2, 0, (mDg sg (mK1 w) p1 0).1, (if (mDg sg (mK1 w) p1 0).1 = p1 then 1 else 0), nf)
       else (w, (mDg sg (mK1 w) p1 0).2, (mBh sg (mK2 w) (mDg sg (mK1 w) p1 0).1).1, (mBh sg (mK2 w) (mDg sg (mK1 w) p1 0).1).2.1, (mBh sg (mK2 w) (mDg sg (mK1 w) p1 0).1).2.2, nf))
    else (w, 1, 0, p1, 1, nf)
def mCmE (S : zS) (n t h : Nat) : zS :=
  match mCm (mS S) h with
  | (w, x, y, p, wr, nf) => if wr = 0 ∧ ¬ S 12 20 = 0 then (mDoes (mRd S p 0 (mWL (mS S) h nf)) n t w x y).2 else mRd S p wr (mWL (mS S) h nf)
theorem mCmE_of {S : zS} {n t h w x y p wr nf : Nat} (hC : mCm (mS S) h = (w, x, y, p, wr, nf)) : mCmE S n t h = if wr = 0 ∧ ¬ S 12 20 = 0 then (mDoes (mRd S p 0 (mWL (mS S) h nf)) n t w x y).2 else mRd S p wr (mWL (mS S) h nf) := by
  unfold mCmE; rw [hC]

set_option maxRecDepth 100000 in
set_option maxHeartbeats 4000000 in
theorem cw_X6_command {l : Launch} (hl : l.stackTraces = false) {G : zG} {S : zS} {J : Int64} {E : UInt64} {n t : Nat} (hm : mNow S n t) (htx : mTx S) (hW : mWds S) (hdo : S 12 20 < 2 ^ 32) {h : Nat} (hh : h ≤ S 12 17) {L : Nat → Nat} {w p1 wr nf : Nat} (hr : mWd (mS S) h 8 0 = (w, p1, wr, nf)) (hwr : ¬ wr = 0) (hwr1 : wr ≤ 1) : nCR l G mX6_command 9 0 0 [.ref 12] (mRd S h 0 L) J E none (mRd S p1 wr (mWL (mS S) h nf)) J E := by
  refine nCR.of hl (by decide) rfl (Nat.le_of_ble_eq_true rfl) (ls := [some (.ref 12), none, none, none, none]) rfl (fun X C hF hX => ?_)
  subst hX
  refine sw_aload_0 C dX6_command_0 ?_
  refine sn_cV0r C vX6_word lX6_198 rfl (by decide) rfl rfl dX6_command_1 (Nat.le_of_ble_eq_true rfl) (c_X6_word_of hl htx hW hh hr) (by decide) (by decide) (by decide) ?_
  refine sw_istore_1 C rfl dX6_command_4 ?_
  refine sn_iconst C 1 (by decide) dX6_command_5 ?_
  refine sw_istore_2 C rfl dX6_command_6 ?_
  refine sn_iconst C 0 (by decide) dX6_command_7 ?_
  refine sw_istore_3 C rfl dX6_command_8 ?_
  refine sw_aload_0 C dX6_command_9 ?_
  refine sn_getIe C (wr) rfl fX6_185 rfl (by decide) rfl dX6_command_10 ?_
  refine sn_if_eq C 17 (by omega) dX6_command_13 (by decide) (fun c13 => ?_) (fun c13 => ?_)
  · exact absurd c13 hwr
  · exact sn_vret C rfl hF dX6_command_16 (by decide) (by decide) rfl rfl rfl

set_option maxRecDepth 100000 in
set_option maxHeartbeats 4000000 in
theorem c0a_X6_command {l : Launch} (hl : l.stackTraces = false) {G : zG} {S : zS} {J : Int64} {E : UInt64} {n t : Nat} (hm : mNow S n t) (htx : mTx S) (hW : mWds S) (hdo : S 12 20 < 2 ^ 32) {h : Nat} (hh : h ≤ S 12 17) {L : Nat → Nat} {p1 nf : Nat} (hr : mWd (mS S) h 8 0 = (0, p1, 0, nf)) (hp1 : p1 ≤ S 12 17) {p2 x : Nat} (hd : mDg (mS S) 1 p1 0 = (p2, x)) (hx : x < 100) (hp2 : p2 ≤ S 12 17) (h0 : p2 = p1) : nCR l G mX6_command 9 0 0 [.ref 12] (mRd S h 0 L) J E none (mRd S p2 1 (mWL (mS S) h nf)) J E := by
  refine nCR.of hl (by decide) rfl (Nat.le_of_ble_eq_true rfl) (ls := [some (.ref 12), none, none, none, none]) rfl (fun X C hF hX => ?_)
  subst hX
  refine sw_aload_0 C dX6_command_0 ?_
  refine sn_cV0r C vX6_word lX6_198 rfl (by decide) rfl rfl dX6_command_1 (Nat.le_of_ble_eq_true rfl) (c_X6_word_of hl htx hW hh hr) (by decide) (by decide) (by decide) ?_
  refine sw_istore_1 C rfl dX6_command_4 ?_
  refine sn_iconst C 1 (by decide) dX6_command_5 ?_
  refine sw_istore_2 C rfl dX6_command_6 ?_
  refine sn_iconst C 0 (by decide) dX6_command_7 ?_
  refine sw_istore_3 C rfl dX6_command_8 ?_
  refine sw_aload_0 C dX6_command_9 ?_
  refine sn_getIe C (0) rfl fX6_185 rfl (by decide) rfl dX6_command_10 ?_
  refine sn_if_eq C 17 (by decide) dX6_command_13 (by decide) (fun c13 => ?_) (fun c13 => ?_)
  · refine sw_iload_1 C dX6_command_17 ?_
    refine sn_bipush C 8 (by decide) dX6_command_18 ?_
    refine sn_icmp_ne C 38 (by decide) (by decide) dX6_command_20 (by decide) (fun c20 => ?_) (fun c20 => ?_)
    · refine sw_iload_1 C dX6_command_38 ?_
      refine sn_bipush C 8 (by decide) dX6_command_39 ?_
      refine sn_icmp_ge C 69 (by decide) (by decide) dX6_command_41 (by decide) (fun c41 => ?_) (fun c41 => ?_)
      · exfalso; omega
      · refine sw_aload_0 C dX6_command_44 ?_
        refine sw_iload_1 C dX6_command_45 ?_
        refine sn_if_eq C 60 (by decide) dX6_command_46 (by decide) (fun c46 => ?_) (fun c46 => ?_)
        · refine sn_iconst C 1 (by decide) dX6_command_60 ?_
          refine sw_goto C 65 dX6_command_61 (by decide) ?_
          refine sn_cV1r C vX6_digits lX6_195 rfl (by decide) rfl rfl dX6_command_65 (Nat.le_of_ble_eq_true rfl) (c_X6_digits_of hl htx hp1 (by decide) hd) (by decide) (by decide) (by decide) ?_
          refine sw_istore_2 C rfl dX6_command_68 ?_
          refine sw_iload_1 C dX6_command_69 ?_
          refine sn_bipush C 8 (by decide) dX6_command_70 ?_
          refine sn_icmp_ge C 112 (by decide) (by decide) dX6_command_72 (by decide) (fun c72 => ?_) (fun c72 => ?_)
          · exfalso; omega
          · refine sw_iload_1 C dX6_command_75 ?_
            refine sn_iconst C 5 (by decide) dX6_command_76 ?_
            refine sn_icmp_eq C 112 (by decide) (by decide) dX6_command_77 (by decide) (fun c77 => ?_) (fun c77 => ?_)
            · exfalso; omega
            · refine sw_aload_0 C dX6_command_80 ?_
              refine sn_getIe C (1) (mRd_w.trans (if_pos h0)) fX6_185 rfl (by decide) rfl dX6_command_81 ?_
              refine sn_if_ne C 112 (by decide) dX6_command_84 (by decide) (fun c84 => ?_) (fun c84 => ?_)
              · refine sw_aload_0 C dX6_command_112 ?_
                refine sn_getIe C (1) (mRd_w.trans (if_pos h0)) fX6_185 rfl (by decide) rfl dX6_command_113 ?_
                refine sn_if_ne C 126 (by decide) dX6_command_116 (by decide) (fun c116 => ?_) (fun c116 => ?_)
                · exact sn_vret C rfl hF dX6_command_126 (by decide) (by decide) (by rw [if_pos h0]) rfl rfl
                · exact absurd c116 (by decide)
              · exact absurd c84 (by decide)
        · exfalso; omega
    · exfalso; omega
  · exact absurd rfl c13

set_option maxRecDepth 100000 in
set_option maxHeartbeats 4000000 in
theorem c0b_X6_command {l : Launch} (hl : l.stackTraces = false) {G : zG} {S : zS} {J : Int64} {E : UInt64} {n t : Nat} (hm : mNow S n t) (htx : mTx S) (hW : mWds S) (hdo : S 12 20 < 2 ^ 32) {h : Nat} (hh : h ≤ S 12 17) {L : Nat → Nat} {p1 nf : Nat} (hr : mWd (mS S) h 8 0 = (0, p1, 0, nf)) (hp1 : p1 ≤ S 12 17) {p2 x : Nat} (hd : mDg (mS S) 1 p1 0 = (p2, x)) (hx : x < 100) (hp2 : p2 ≤ S 12 17) (h0 : ¬ p2 = p1) {y p wr : Nat} (hb : mBh (mS S) 1 p2 = (y, p, wr)) (hwr : wr ≤ 1) (hy : y < 100) : nCR l G mX6_command 9 0 0 [.ref 12] (mRd S h 0 L) J E none (if wr = 0 ∧ ¬ S 12 20 = 0 then (mDoes (mRd S p 0 (mWL (mS S) h nf)) n t 0 x y).2 else mRd S p wr (mWL (mS S) h nf)) J E := by
  refine nCR.of hl (by decide) rfl (Nat.le_of_ble_eq_true rfl) (ls := [some (.ref 12), none, none, none, none]) rfl (fun X C hF hX => ?_)
  subst hX
  refine sw_aload_0 C dX6_command_0 ?_
  refine sn_cV0r C vX6_word lX6_198 rfl (by decide) rfl rfl dX6_command_1 (Nat.le_of_ble_eq_true rfl) (c_X6_word_of hl htx hW hh hr) (by decide) (by decide) (by decide) ?_
  refine sw_istore_1 C rfl dX6_command_4 ?_
  refine sn_iconst C 1 (by decide) dX6_command_5 ?_
  refine sw_istore_2 C rfl dX6_command_6 ?_
  refine sn_iconst C 0 (by decide) dX6_command_7 ?_
  refine sw_istore_3 C rfl dX6_command_8 ?_
  refine sw_aload_0 C dX6_command_9 ?_
  refine sn_getIe C (0) rfl fX6_185 rfl (by decide) rfl dX6_command_10 ?_
  refine sn_if_eq C 17 (by decide) dX6_command_13 (by decide) (fun c13 => ?_) (fun c13 => ?_)
  · refine sw_iload_1 C dX6_command_17 ?_
    refine sn_bipush C 8 (by decide) dX6_command_18 ?_
    refine sn_icmp_ne C 38 (by decide) (by decide) dX6_command_20 (by decide) (fun c20 => ?_) (fun c20 => ?_)
    · refine sw_iload_1 C dX6_command_38 ?_
      refine sn_bipush C 8 (by decide) dX6_command_39 ?_
      refine sn_icmp_ge C 69 (by decide) (by decide) dX6_command_41 (by decide) (fun c41 => ?_) (fun c41 => ?_)
      · exfalso; omega
      · refine sw_aload_0 C dX6_command_44 ?_
        refine sw_iload_1 C dX6_command_45 ?_
        refine sn_if_eq C 60 (by decide) dX6_command_46 (by decide) (fun c46 => ?_) (fun c46 => ?_)
        · refine sn_iconst C 1 (by decide) dX6_command_60 ?_
          refine sw_goto C 65 dX6_command_61 (by decide) ?_
          refine sn_cV1r C vX6_digits lX6_195 rfl (by decide) rfl rfl dX6_command_65 (Nat.le_of_ble_eq_true rfl) (c_X6_digits_of hl htx hp1 (by decide) hd) (by decide) (by decide) (by decide) ?_
          refine sw_istore_2 C rfl dX6_command_68 ?_
          rw [if_neg h0]
          refine sw_iload_1 C dX6_command_69 ?_
          refine sn_bipush C 8 (by decide) dX6_command_70 ?_
          refine sn_icmp_ge C 112 (by decide) (by decide) dX6_command_72 (by decide) (fun c72 => ?_) (fun c72 => ?_)
          · exfalso; omega
          · refine sw_iload_1 C dX6_command_75 ?_
            refine sn_iconst C 5 (by decide) dX6_command_76 ?_
            refine sn_icmp_eq C 112 (by decide) (by decide) dX6_command_77 (by decide) (fun c77 => ?_) (fun c77 => ?_)
            · exfalso; omega
            · refine sw_aload_0 C dX6_command_80 ?_
              refine sn_getIe C (0) rfl fX6_185 rfl (by decide) rfl dX6_command_81 ?_
              refine sn_if_ne C 112 (by decide) dX6_command_84 (by decide) (fun c84 => ?_) (fun c84 => ?_)
              · exact absurd rfl c84
              · refine sw_aload_0 C dX6_command_87 ?_
                refine sw_iload_1 C dX6_command_88 ?_
                refine sn_iconst C 1 (by decide) dX6_command_89 ?_
                refine sn_icmp_eq C 103 (by decide) (by decide) dX6_command_90 (by decide) (fun c90 => ?_) (fun c90 => ?_)
                · exfalso; omega
                · refine sw_iload_1 C dX6_command_93 ?_
                  refine sn_iconst C 2 (by decide) dX6_command_94 ?_
                  refine sn_icmp_eq C 103 (by decide) (by decide) dX6_command_95 (by decide) (fun c95 => ?_) (fun c95 => ?_)
                  · exfalso; omega
                  · refine sw_iload_1 C dX6_command_98 ?_
                    refine sn_iconst C 4 (by decide) dX6_command_99 ?_
                    refine sn_icmp_ne C 107 (by decide) (by decide) dX6_command_100 (by decide) (fun c100 => ?_) (fun c100 => ?_)
                    · refine sn_iconst C 1 (by decide) dX6_command_107 ?_
                      refine sn_cV1r C vX6_behind lX6_201 rfl (by decide) rfl rfl dX6_command_108 (Nat.le_of_ble_eq_true rfl) (c_X6_behind_of hl htx hp2 (by decide) hb) (by decide) (by decide) (by decide) ?_
                      refine sw_istore_3 C rfl dX6_command_111 ?_
                      refine sw_aload_0 C dX6_command_112 ?_
                      refine sn_getIe C (wr) rfl fX6_185 rfl (by decide) rfl dX6_command_113 ?_
                      refine sn_if_ne C 126 (by omega) dX6_command_116 (by decide) (fun c116 => ?_) (fun c116 => ?_)
                      · exact sn_vret C rfl hF dX6_command_126 (by decide) (by decide) (by first | (rw [if_pos ⟨rfl, c123⟩]; done) | (rw [if_neg (fun hc => hc.2 c123)]; done) | (rw [if_neg (fun hc => c116 hc.1)]; done)) rfl rfl
                      · subst c116
                        refine sw_aload_0 C dX6_command_119 ?_
                        refine sn_getIe C (S 12 20) rfl fX6_204 rfl (by decide) rfl dX6_command_120 ?_
                        refine sn_if_ne C 127 hdo dX6_command_123 (by decide) (fun c123 => ?_) (fun c123 => ?_)
                        · refine sw_aload_0 C dX6_command_127 ?_
                          refine sw_iload_1 C dX6_command_128 ?_
                          refine sw_iload_2 C dX6_command_129 ?_
                          refine sw_iload_3 C dX6_command_130 ?_
                          refine sn_cV3r C vX6_does lX6_207 rfl (by decide) rfl rfl dX6_command_131 (Nat.le_of_ble_eq_true rfl) (c_X6_does hl (S := mRd S p 0 (mWL (mS S) h nf)) (mNow_row (fun b _ => mRd_at (by decide) (by decide)) hm) (by decide) (by omega) (by omega)) (by decide) (by decide) (by decide) ?_
                          refine sw_istore_4 C rfl dX6_command_134 ?_
                          exact sn_vret C rfl hF dX6_command_136 (by decide) (by decide) (by first | (rw [if_pos ⟨rfl, c123⟩]; done) | (rw [if_neg (fun hc => hc.2 c123)]; done) | (rw [if_neg (fun hc => c116 hc.1)]; done)) rfl rfl
                        · exact sn_vret C rfl hF dX6_command_126 (by decide) (by decide) (by first | (rw [if_pos ⟨rfl, c123⟩]; done) | (rw [if_neg (fun hc => hc.2 c123)]; done) | (rw [if_neg (fun hc => c116 hc.1)]; done)) rfl rfl
                    · exfalso; omega
        · exfalso; omega
    · exfalso; omega
  · exact absurd rfl c13

set_option maxRecDepth 100000 in
set_option maxHeartbeats 4000000 in
theorem c1a_X6_command {l : Launch} (hl : l.stackTraces = false) {G : zG} {S : zS} {J : Int64} {E : UInt64} {n t : Nat} (hm : mNow S n t) (htx : mTx S) (hW : mWds S) (hdo : S 12 20 < 2 ^ 32) {h : Nat} (hh : h ≤ S 12 17) {L : Nat → Nat} {p1 nf : Nat} (hr : mWd (mS S) h 8 0 = (1, p1, 0, nf)) (hp1 : p1 ≤ S 12 17) {p2 x : Nat} (hd : mDg (mS S) 2 p1 0 = (p2, x)) (hx : x < 100) (hp2 : p2 ≤ S 12 17) (h0 : p2 = p1) : nCR l G mX6_command 9 0 0 [.ref 12] (mRd S h 0 L) J E none (mRd S p2 1 (mWL (mS S) h nf)) J E := by
  refine nCR.of hl (by decide) rfl (Nat.le_of_ble_eq_true rfl) (ls := [some (.ref 12), none, none, none, none]) rfl (fun X C hF hX => ?_)
  subst hX
  refine sw_aload_0 C dX6_command_0 ?_
  refine sn_cV0r C vX6_word lX6_198 rfl (by decide) rfl rfl dX6_command_1 (Nat.le_of_ble_eq_true rfl) (c_X6_word_of hl htx hW hh hr) (by decide) (by decide) (by decide) ?_
  refine sw_istore_1 C rfl dX6_command_4 ?_
  refine sn_iconst C 1 (by decide) dX6_command_5 ?_
  refine sw_istore_2 C rfl dX6_command_6 ?_
  refine sn_iconst C 0 (by decide) dX6_command_7 ?_
  refine sw_istore_3 C rfl dX6_command_8 ?_
  refine sw_aload_0 C dX6_command_9 ?_
  refine sn_getIe C (0) rfl fX6_185 rfl (by decide) rfl dX6_command_10 ?_
  refine sn_if_eq C 17 (by decide) dX6_command_13 (by decide) (fun c13 => ?_) (fun c13 => ?_)
  · refine sw_iload_1 C dX6_command_17 ?_
    refine sn_bipush C 8 (by decide) dX6_command_18 ?_
    refine sn_icmp_ne C 38 (by decide) (by decide) dX6_command_20 (by decide) (fun c20 => ?_) (fun c20 => ?_)
    · refine sw_iload_1 C dX6_command_38 ?_
      refine sn_bipush C 8 (by decide) dX6_command_39 ?_
      refine sn_icmp_ge C 69 (by decide) (by decide) dX6_command_41 (by decide) (fun c41 => ?_) (fun c41 => ?_)
      · exfalso; omega
      · refine sw_aload_0 C dX6_command_44 ?_
        refine sw_iload_1 C dX6_command_45 ?_
        refine sn_if_eq C 60 (by decide) dX6_command_46 (by decide) (fun c46 => ?_) (fun c46 => ?_)
        · exfalso; omega
        · refine sw_iload_1 C dX6_command_49 ?_
          refine sn_iconst C 4 (by decide) dX6_command_50 ?_
          refine sn_icmp_lt C 64 (by decide) (by decide) dX6_command_51 (by decide) (fun c51 => ?_) (fun c51 => ?_)
          · refine sn_iconst C 2 (by decide) dX6_command_64 ?_
            refine sn_cV1r C vX6_digits lX6_195 rfl (by decide) rfl rfl dX6_command_65 (Nat.le_of_ble_eq_true rfl) (c_X6_digits_of hl htx hp1 (by decide) hd) (by decide) (by decide) (by decide) ?_
            refine sw_istore_2 C rfl dX6_command_68 ?_
            refine sw_iload_1 C dX6_command_69 ?_
            refine sn_bipush C 8 (by decide) dX6_command_70 ?_
            refine sn_icmp_ge C 112 (by decide) (by decide) dX6_command_72 (by decide) (fun c72 => ?_) (fun c72 => ?_)
            · exfalso; omega
            · refine sw_iload_1 C dX6_command_75 ?_
              refine sn_iconst C 5 (by decide) dX6_command_76 ?_
              refine sn_icmp_eq C 112 (by decide) (by decide) dX6_command_77 (by decide) (fun c77 => ?_) (fun c77 => ?_)
              · exfalso; omega
              · refine sw_aload_0 C dX6_command_80 ?_
                refine sn_getIe C (1) (mRd_w.trans (if_pos h0)) fX6_185 rfl (by decide) rfl dX6_command_81 ?_
                refine sn_if_ne C 112 (by decide) dX6_command_84 (by decide) (fun c84 => ?_) (fun c84 => ?_)
                · refine sw_aload_0 C dX6_command_112 ?_
                  refine sn_getIe C (1) (mRd_w.trans (if_pos h0)) fX6_185 rfl (by decide) rfl dX6_command_113 ?_
                  refine sn_if_ne C 126 (by decide) dX6_command_116 (by decide) (fun c116 => ?_) (fun c116 => ?_)
                  · exact sn_vret C rfl hF dX6_command_126 (by decide) (by decide) (by rw [if_pos h0]) rfl rfl
                  · exact absurd c116 (by decide)
                · exact absurd c84 (by decide)
          · exfalso; omega
    · exfalso; omega
  · exact absurd rfl c13

set_option maxRecDepth 100000 in
set_option maxHeartbeats 4000000 in
theorem c1b_X6_command {l : Launch} (hl : l.stackTraces = false) {G : zG} {S : zS} {J : Int64} {E : UInt64} {n t : Nat} (hm : mNow S n t) (htx : mTx S) (hW : mWds S) (hdo : S 12 20 < 2 ^ 32) {h : Nat} (hh : h ≤ S 12 17) {L : Nat → Nat} {p1 nf : Nat} (hr : mWd (mS S) h 8 0 = (1, p1, 0, nf)) (hp1 : p1 ≤ S 12 17) {p2 x : Nat} (hd : mDg (mS S) 2 p1 0 = (p2, x)) (hx : x < 100) (hp2 : p2 ≤ S 12 17) (h0 : ¬ p2 = p1) {y p wr : Nat} (hb : mBh (mS S) 2 p2 = (y, p, wr)) (hwr : wr ≤ 1) (hy : y < 100) : nCR l G mX6_command 9 0 0 [.ref 12] (mRd S h 0 L) J E none (if wr = 0 ∧ ¬ S 12 20 = 0 then (mDoes (mRd S p 0 (mWL (mS S) h nf)) n t 1 x y).2 else mRd S p wr (mWL (mS S) h nf)) J E := by
  refine nCR.of hl (by decide) rfl (Nat.le_of_ble_eq_true rfl) (ls := [some (.ref 12), none, none, none, none]) rfl (fun X C hF hX => ?_)
  subst hX
  refine sw_aload_0 C dX6_command_0 ?_
  refine sn_cV0r C vX6_word lX6_198 rfl (by decide) rfl rfl dX6_command_1 (Nat.le_of_ble_eq_true rfl) (c_X6_word_of hl htx hW hh hr) (by decide) (by decide) (by decide) ?_
  refine sw_istore_1 C rfl dX6_command_4 ?_
  refine sn_iconst C 1 (by decide) dX6_command_5 ?_
  refine sw_istore_2 C rfl dX6_command_6 ?_
  refine sn_iconst C 0 (by decide) dX6_command_7 ?_
  refine sw_istore_3 C rfl dX6_command_8 ?_
  refine sw_aload_0 C dX6_command_9 ?_
  refine sn_getIe C (0) rfl fX6_185 rfl (by decide) rfl dX6_command_10 ?_
  refine sn_if_eq C 17 (by decide) dX6_command_13 (by decide) (fun c13 => ?_) (fun c13 => ?_)
  · refine sw_iload_1 C dX6_command_17 ?_
    refine sn_bipush C 8 (by decide) dX6_command_18 ?_
    refine sn_icmp_ne C 38 (by decide) (by decide) dX6_command_20 (by decide) (fun c20 => ?_) (fun c20 => ?_)
    · refine sw_iload_1 C dX6_command_38 ?_
      refine sn_bipush C 8 (by decide) dX6_command_39 ?_
      refine sn_icmp_ge C 69 (by decide) (by decide) dX6_command_41 (by decide) (fun c41 => ?_) (fun c41 => ?_)
      · exfalso; omega
      · refine sw_aload_0 C dX6_command_44 ?_
        refine sw_iload_1 C dX6_command_45 ?_
        refine sn_if_eq C 60 (by decide) dX6_command_46 (by decide) (fun c46 => ?_) (fun c46 => ?_)
        · exfalso; omega
        · refine sw_iload_1 C dX6_command_49 ?_
          refine sn_iconst C 4 (by decide) dX6_command_50 ?_
          refine sn_icmp_lt C 64 (by decide) (by decide) dX6_command_51 (by decide) (fun c51 => ?_) (fun c51 => ?_)
          · refine sn_iconst C 2 (by decide) dX6_command_64 ?_
            refine sn_cV1r C vX6_digits lX6_195 rfl (by decide) rfl rfl dX6_command_65 (Nat.le_of_ble_eq_true rfl) (c_X6_digits_of hl htx hp1 (by decide) hd) (by decide) (by decide) (by decide) ?_
            refine sw_istore_2 C rfl dX6_command_68 ?_
            rw [if_neg h0]
            refine sw_iload_1 C dX6_command_69 ?_
            refine sn_bipush C 8 (by decide) dX6_command_70 ?_
            refine sn_icmp_ge C 112 (by decide) (by decide) dX6_command_72 (by decide) (fun c72 => ?_) (fun c72 => ?_)
            · exfalso; omega
            · refine sw_iload_1 C dX6_command_75 ?_
              refine sn_iconst C 5 (by decide) dX6_command_76 ?_
              refine sn_icmp_eq C 112 (by decide) (by decide) dX6_command_77 (by decide) (fun c77 => ?_) (fun c77 => ?_)
              · exfalso; omega
              · refine sw_aload_0 C dX6_command_80 ?_
                refine sn_getIe C (0) rfl fX6_185 rfl (by decide) rfl dX6_command_81 ?_
                refine sn_if_ne C 112 (by decide) dX6_command_84 (by decide) (fun c84 => ?_) (fun c84 => ?_)
                · exact absurd rfl c84
                · refine sw_aload_0 C dX6_command_87 ?_
                  refine sw_iload_1 C dX6_command_88 ?_
                  refine sn_iconst C 1 (by decide) dX6_command_89 ?_
                  refine sn_icmp_eq C 103 (by decide) (by decide) dX6_command_90 (by decide) (fun c90 => ?_) (fun c90 => ?_)
                  · refine sn_iconst C 2 (by decide) dX6_command_103 ?_
                    refine sw_goto C 108 dX6_command_104 (by decide) ?_
                    refine sn_cV1r C vX6_behind lX6_201 rfl (by decide) rfl rfl dX6_command_108 (Nat.le_of_ble_eq_true rfl) (c_X6_behind_of hl htx hp2 (by decide) hb) (by decide) (by decide) (by decide) ?_
                    refine sw_istore_3 C rfl dX6_command_111 ?_
                    refine sw_aload_0 C dX6_command_112 ?_
                    refine sn_getIe C (wr) rfl fX6_185 rfl (by decide) rfl dX6_command_113 ?_
                    refine sn_if_ne C 126 (by omega) dX6_command_116 (by decide) (fun c116 => ?_) (fun c116 => ?_)
                    · exact sn_vret C rfl hF dX6_command_126 (by decide) (by decide) (by first | (rw [if_pos ⟨rfl, c123⟩]; done) | (rw [if_neg (fun hc => hc.2 c123)]; done) | (rw [if_neg (fun hc => c116 hc.1)]; done)) rfl rfl
                    · subst c116
                      refine sw_aload_0 C dX6_command_119 ?_
                      refine sn_getIe C (S 12 20) rfl fX6_204 rfl (by decide) rfl dX6_command_120 ?_
                      refine sn_if_ne C 127 hdo dX6_command_123 (by decide) (fun c123 => ?_) (fun c123 => ?_)
                      · refine sw_aload_0 C dX6_command_127 ?_
                        refine sw_iload_1 C dX6_command_128 ?_
                        refine sw_iload_2 C dX6_command_129 ?_
                        refine sw_iload_3 C dX6_command_130 ?_
                        refine sn_cV3r C vX6_does lX6_207 rfl (by decide) rfl rfl dX6_command_131 (Nat.le_of_ble_eq_true rfl) (c_X6_does hl (S := mRd S p 0 (mWL (mS S) h nf)) (mNow_row (fun b _ => mRd_at (by decide) (by decide)) hm) (by decide) (by omega) (by omega)) (by decide) (by decide) (by decide) ?_
                        refine sw_istore_4 C rfl dX6_command_134 ?_
                        exact sn_vret C rfl hF dX6_command_136 (by decide) (by decide) (by first | (rw [if_pos ⟨rfl, c123⟩]; done) | (rw [if_neg (fun hc => hc.2 c123)]; done) | (rw [if_neg (fun hc => c116 hc.1)]; done)) rfl rfl
                      · exact sn_vret C rfl hF dX6_command_126 (by decide) (by decide) (by first | (rw [if_pos ⟨rfl, c123⟩]; done) | (rw [if_neg (fun hc => hc.2 c123)]; done) | (rw [if_neg (fun hc => c116 hc.1)]; done)) rfl rfl
                  · exfalso; omega
          · exfalso; omega
    · exfalso; omega
  · exact absurd rfl c13

set_option maxRecDepth 100000 in
set_option maxHeartbeats 4000000 in
theorem c2a_X6_command {l : Launch} (hl : l.stackTraces = false) {G : zG} {S : zS} {J : Int64} {E : UInt64} {n t : Nat} (hm : mNow S n t) (htx : mTx S) (hW : mWds S) (hdo : S 12 20 < 2 ^ 32) {h : Nat} (hh : h ≤ S 12 17) {L : Nat → Nat} {p1 nf : Nat} (hr : mWd (mS S) h 8 0 = (2, p1, 0, nf)) (hp1 : p1 ≤ S 12 17) {p2 x : Nat} (hd : mDg (mS S) 2 p1 0 = (p2, x)) (hx : x < 100) (hp2 : p2 ≤ S 12 17) (h0 : p2 = p1) : nCR l G mX6_command 9 0 0 [.ref 12] (mRd S h 0 L) J E none (mRd S p2 1 (mWL (mS S) h nf)) J E := by
  refine nCR.of hl (by decide) rfl (Nat.le_of_ble_eq_true rfl) (ls := [some (.ref 12), none, none, none, none]) rfl (fun X C hF hX => ?_)
  subst hX
  refine sw_aload_0 C dX6_command_0 ?_
  refine sn_cV0r C vX6_word lX6_198 rfl (by decide) rfl rfl dX6_command_1 (Nat.le_of_ble_eq_true rfl) (c_X6_word_of hl htx hW hh hr) (by decide) (by decide) (by decide) ?_
  refine sw_istore_1 C rfl dX6_command_4 ?_
  refine sn_iconst C 1 (by decide) dX6_command_5 ?_
  refine sw_istore_2 C rfl dX6_command_6 ?_
  refine sn_iconst C 0 (by decide) dX6_command_7 ?_
  refine sw_istore_3 C rfl dX6_command_8 ?_
  refine sw_aload_0 C dX6_command_9 ?_
  refine sn_getIe C (0) rfl fX6_185 rfl (by decide) rfl dX6_command_10 ?_
  refine sn_if_eq C 17 (by decide) dX6_command_13 (by decide) (fun c13 => ?_) (fun c13 => ?_)
  · refine sw_iload_1 C dX6_command_17 ?_
    refine sn_bipush C 8 (by decide) dX6_command_18 ?_
    refine sn_icmp_ne C 38 (by decide) (by decide) dX6_command_20 (by decide) (fun c20 => ?_) (fun c20 => ?_)
    · refine sw_iload_1 C dX6_command_38 ?_
      refine sn_bipush C 8 (by decide) dX6_command_39 ?_
      refine sn_icmp_ge C 69 (by decide) (by decide) dX6_command_41 (by decide) (fun c41 => ?_) (fun c41 => ?_)
      · exfalso; omega
      · refine sw_aload_0 C dX6_command_44 ?_
        refine sw_iload_1 C dX6_command_45 ?_
        refine sn_if_eq C 60 (by decide) dX6_command_46 (by decide) (fun c46 => ?_) (fun c46 => ?_)
        · exfalso; omega
        · refine sw_iload_1 C dX6_command_49 ?_
          refine sn_iconst C 4 (by decide) dX6_command_50 ?_
          refine sn_icmp_lt C 64 (by decide) (by decide) dX6_command_51 (by decide) (fun c51 => ?_) (fun c51 => ?_)
          · refine sn_iconst C 2 (by decide) dX6_command_64 ?_
            refine sn_cV1r C vX6_digits lX6_195 rfl (by decide) rfl rfl dX6_command_65 (Nat.le_of_ble_eq_true rfl) (c_X6_digits_of hl htx hp1 (by decide) hd) (by decide) (by decide) (by decide) ?_
            refine sw_istore_2 C rfl dX6_command_68 ?_
            refine sw_iload_1 C dX6_command_69 ?_
            refine sn_bipush C 8 (by decide) dX6_command_70 ?_
            refine sn_icmp_ge C 112 (by decide) (by decide) dX6_command_72 (by decide) (fun c72 => ?_) (fun c72 => ?_)
            · exfalso; omega
            · refine sw_iload_1 C dX6_command_75 ?_
              refine sn_iconst C 5 (by decide) dX6_command_76 ?_
              refine sn_icmp_eq C 112 (by decide) (by decide) dX6_command_77 (by decide) (fun c77 => ?_) (fun c77 => ?_)
              · exfalso; omega
              · refine sw_aload_0 C dX6_command_80 ?_
                refine sn_getIe C (1) (mRd_w.trans (if_pos h0)) fX6_185 rfl (by decide) rfl dX6_command_81 ?_
                refine sn_if_ne C 112 (by decide) dX6_command_84 (by decide) (fun c84 => ?_) (fun c84 => ?_)
                · refine sw_aload_0 C dX6_command_112 ?_
                  refine sn_getIe C (1) (mRd_w.trans (if_pos h0)) fX6_185 rfl (by decide) rfl dX6_command_113 ?_
                  refine sn_if_ne C 126 (by decide) dX6_command_116 (by decide) (fun c116 => ?_) (fun c116 => ?_)
                  · exact sn_vret C rfl hF dX6_command_126 (by decide) (by decide) (by rw [if_pos h0]) rfl rfl
                  · exact absurd c116 (by decide)
                · exact absurd c84 (by decide)
          · exfalso; omega
    · exfalso; omega
  · exact absurd rfl c13

set_option maxRecDepth 100000 in
set_option maxHeartbeats 4000000 in
theorem c2b_X6_command {l : Launch} (hl : l.stackTraces = false) {G : zG} {S : zS} {J : Int64} {E : UInt64} {n t : Nat} (hm : mNow S n t) (htx : mTx S) (hW : mWds S) (hdo : S 12 20 < 2 ^ 32) {h : Nat} (hh : h ≤ S 12 17) {L : Nat → Nat} {p1 nf : Nat} (hr : mWd (mS S) h 8 0 = (2, p1, 0, nf)) (hp1 : p1 ≤ S 12 17) {p2 x : Nat} (hd : mDg (mS S) 2 p1 0 = (p2, x)) (hx : x < 100) (hp2 : p2 ≤ S 12 17) (h0 : ¬ p2 = p1) {y p wr : Nat} (hb : mBh (mS S) 2 p2 = (y, p, wr)) (hwr : wr ≤ 1) (hy : y < 100) : nCR l G mX6_command 9 0 0 [.ref 12] (mRd S h 0 L) J E none (if wr = 0 ∧ ¬ S 12 20 = 0 then (mDoes (mRd S p 0 (mWL (mS S) h nf)) n t 2 x y).2 else mRd S p wr (mWL (mS S) h nf)) J E := by
  refine nCR.of hl (by decide) rfl (Nat.le_of_ble_eq_true rfl) (ls := [some (.ref 12), none, none, none, none]) rfl (fun X C hF hX => ?_)
  subst hX
  refine sw_aload_0 C dX6_command_0 ?_
  refine sn_cV0r C vX6_word lX6_198 rfl (by decide) rfl rfl dX6_command_1 (Nat.le_of_ble_eq_true rfl) (c_X6_word_of hl htx hW hh hr) (by decide) (by decide) (by decide) ?_
  refine sw_istore_1 C rfl dX6_command_4 ?_
  refine sn_iconst C 1 (by decide) dX6_command_5 ?_
  refine sw_istore_2 C rfl dX6_command_6 ?_
  refine sn_iconst C 0 (by decide) dX6_command_7 ?_
  refine sw_istore_3 C rfl dX6_command_8 ?_
  refine sw_aload_0 C dX6_command_9 ?_
  refine sn_getIe C (0) rfl fX6_185 rfl (by decide) rfl dX6_command_10 ?_
  refine sn_if_eq C 17 (by decide) dX6_command_13 (by decide) (fun c13 => ?_) (fun c13 => ?_)
  · refine sw_iload_1 C dX6_command_17 ?_
    refine sn_bipush C 8 (by decide) dX6_command_18 ?_
    refine sn_icmp_ne C 38 (by decide) (by decide) dX6_command_20 (by decide) (fun c20 => ?_) (fun c20 => ?_)
    · refine sw_iload_1 C dX6_command_38 ?_
      refine sn_bipush C 8 (by decide) dX6_command_39 ?_
      refine sn_icmp_ge C 69 (by decide) (by decide) dX6_command_41 (by decide) (fun c41 => ?_) (fun c41 => ?_)
      · exfalso; omega
      · refine sw_aload_0 C dX6_command_44 ?_
        refine sw_iload_1 C dX6_command_45 ?_
        refine sn_if_eq C 60 (by decide) dX6_command_46 (by decide) (fun c46 => ?_) (fun c46 => ?_)
        · exfalso; omega
        · refine sw_iload_1 C dX6_command_49 ?_
          refine sn_iconst C 4 (by decide) dX6_command_50 ?_
          refine sn_icmp_lt C 64 (by decide) (by decide) dX6_command_51 (by decide) (fun c51 => ?_) (fun c51 => ?_)
          · refine sn_iconst C 2 (by decide) dX6_command_64 ?_
            refine sn_cV1r C vX6_digits lX6_195 rfl (by decide) rfl rfl dX6_command_65 (Nat.le_of_ble_eq_true rfl) (c_X6_digits_of hl htx hp1 (by decide) hd) (by decide) (by decide) (by decide) ?_
            refine sw_istore_2 C rfl dX6_command_68 ?_
            rw [if_neg h0]
            refine sw_iload_1 C dX6_command_69 ?_
            refine sn_bipush C 8 (by decide) dX6_command_70 ?_
            refine sn_icmp_ge C 112 (by decide) (by decide) dX6_command_72 (by decide) (fun c72 => ?_) (fun c72 => ?_)
            · exfalso; omega
            · refine sw_iload_1 C dX6_command_75 ?_
              refine sn_iconst C 5 (by decide) dX6_command_76 ?_
              refine sn_icmp_eq C 112 (by decide) (by decide) dX6_command_77 (by decide) (fun c77 => ?_) (fun c77 => ?_)
              · exfalso; omega
              · refine sw_aload_0 C dX6_command_80 ?_
                refine sn_getIe C (0) rfl fX6_185 rfl (by decide) rfl dX6_command_81 ?_
                refine sn_if_ne C 112 (by decide) dX6_command_84 (by decide) (fun c84 => ?_) (fun c84 => ?_)
                · exact absurd rfl c84
                · refine sw_aload_0 C dX6_command_87 ?_
                  refine sw_iload_1 C dX6_command_88 ?_
                  refine sn_iconst C 1 (by decide) dX6_command_89 ?_
                  refine sn_icmp_eq C 103 (by decide) (by decide) dX6_command_90 (by decide) (fun c90 => ?_) (fun c90 => ?_)
                  · exfalso; omega
                  · refine sw_iload_1 C dX6_command_93 ?_
                    refine sn_iconst C 2 (by decide) dX6_command_94 ?_
                    refine sn_icmp_eq C 103 (by decide) (by decide) dX6_command_95 (by decide) (fun c95 => ?_) (fun c95 => ?_)
                    · refine sn_iconst C 2 (by decide) dX6_command_103 ?_
                      refine sw_goto C 108 dX6_command_104 (by decide) ?_
                      refine sn_cV1r C vX6_behind lX6_201 rfl (by decide) rfl rfl dX6_command_108 (Nat.le_of_ble_eq_true rfl) (c_X6_behind_of hl htx hp2 (by decide) hb) (by decide) (by decide) (by decide) ?_
                      refine sw_istore_3 C rfl dX6_command_111 ?_
                      refine sw_aload_0 C dX6_command_112 ?_
                      refine sn_getIe C (wr) rfl fX6_185 rfl (by decide) rfl dX6_command_113 ?_
                      refine sn_if_ne C 126 (by omega) dX6_command_116 (by decide) (fun c116 => ?_) (fun c116 => ?_)
                      · exact sn_vret C rfl hF dX6_command_126 (by decide) (by decide) (by first | (rw [if_pos ⟨rfl, c123⟩]; done) | (rw [if_neg (fun hc => hc.2 c123)]; done) | (rw [if_neg (fun hc => c116 hc.1)]; done)) rfl rfl
                      · subst c116
                        refine sw_aload_0 C dX6_command_119 ?_
                        refine sn_getIe C (S 12 20) rfl fX6_204 rfl (by decide) rfl dX6_command_120 ?_
                        refine sn_if_ne C 127 hdo dX6_command_123 (by decide) (fun c123 => ?_) (fun c123 => ?_)
                        · refine sw_aload_0 C dX6_command_127 ?_
                          refine sw_iload_1 C dX6_command_128 ?_
                          refine sw_iload_2 C dX6_command_129 ?_
                          refine sw_iload_3 C dX6_command_130 ?_
                          refine sn_cV3r C vX6_does lX6_207 rfl (by decide) rfl rfl dX6_command_131 (Nat.le_of_ble_eq_true rfl) (c_X6_does hl (S := mRd S p 0 (mWL (mS S) h nf)) (mNow_row (fun b _ => mRd_at (by decide) (by decide)) hm) (by decide) (by omega) (by omega)) (by decide) (by decide) (by decide) ?_
                          refine sw_istore_4 C rfl dX6_command_134 ?_
                          exact sn_vret C rfl hF dX6_command_136 (by decide) (by decide) (by first | (rw [if_pos ⟨rfl, c123⟩]; done) | (rw [if_neg (fun hc => hc.2 c123)]; done) | (rw [if_neg (fun hc => c116 hc.1)]; done)) rfl rfl
                        · exact sn_vret C rfl hF dX6_command_126 (by decide) (by decide) (by first | (rw [if_pos ⟨rfl, c123⟩]; done) | (rw [if_neg (fun hc => hc.2 c123)]; done) | (rw [if_neg (fun hc => c116 hc.1)]; done)) rfl rfl
                    · exfalso; omega
          · exfalso; omega
    · exfalso; omega
  · exact absurd rfl c13

set_option maxRecDepth 100000 in
set_option maxHeartbeats 4000000 in
theorem c3a_X6_command {l : Launch} (hl : l.stackTraces = false) {G : zG} {S : zS} {J : Int64} {E : UInt64} {n t : Nat} (hm : mNow S n t) (htx : mTx S) (hW : mWds S) (hdo : S 12 20 < 2 ^ 32) {h : Nat} (hh : h ≤ S 12 17) {L : Nat → Nat} {p1 nf : Nat} (hr : mWd (mS S) h 8 0 = (3, p1, 0, nf)) (hp1 : p1 ≤ S 12 17) {p2 x : Nat} (hd : mDg (mS S) 2 p1 0 = (p2, x)) (hx : x < 100) (hp2 : p2 ≤ S 12 17) (h0 : p2 = p1) : nCR l G mX6_command 9 0 0 [.ref 12] (mRd S h 0 L) J E none (mRd S p2 1 (mWL (mS S) h nf)) J E := by
  refine nCR.of hl (by decide) rfl (Nat.le_of_ble_eq_true rfl) (ls := [some (.ref 12), none, none, none, none]) rfl (fun X C hF hX => ?_)
  subst hX
  refine sw_aload_0 C dX6_command_0 ?_
  refine sn_cV0r C vX6_word lX6_198 rfl (by decide) rfl rfl dX6_command_1 (Nat.le_of_ble_eq_true rfl) (c_X6_word_of hl htx hW hh hr) (by decide) (by decide) (by decide) ?_
  refine sw_istore_1 C rfl dX6_command_4 ?_
  refine sn_iconst C 1 (by decide) dX6_command_5 ?_
  refine sw_istore_2 C rfl dX6_command_6 ?_
  refine sn_iconst C 0 (by decide) dX6_command_7 ?_
  refine sw_istore_3 C rfl dX6_command_8 ?_
  refine sw_aload_0 C dX6_command_9 ?_
  refine sn_getIe C (0) rfl fX6_185 rfl (by decide) rfl dX6_command_10 ?_
  refine sn_if_eq C 17 (by decide) dX6_command_13 (by decide) (fun c13 => ?_) (fun c13 => ?_)
  · refine sw_iload_1 C dX6_command_17 ?_
    refine sn_bipush C 8 (by decide) dX6_command_18 ?_
    refine sn_icmp_ne C 38 (by decide) (by decide) dX6_command_20 (by decide) (fun c20 => ?_) (fun c20 => ?_)
    · refine sw_iload_1 C dX6_command_38 ?_
      refine sn_bipush C 8 (by decide) dX6_command_39 ?_
      refine sn_icmp_ge C 69 (by decide) (by decide) dX6_command_41 (by decide) (fun c41 => ?_) (fun c41 => ?_)
      · exfalso; omega
      · refine sw_aload_0 C dX6_command_44 ?_
        refine sw_iload_1 C dX6_command_45 ?_
        refine sn_if_eq C 60 (by decide) dX6_command_46 (by decide) (fun c46 => ?_) (fun c46 => ?_)
        · exfalso; omega
        · refine sw_iload_1 C dX6_command_49 ?_
          refine sn_iconst C 4 (by decide) dX6_command_50 ?_
          refine sn_icmp_lt C 64 (by decide) (by decide) dX6_command_51 (by decide) (fun c51 => ?_) (fun c51 => ?_)
          · refine sn_iconst C 2 (by decide) dX6_command_64 ?_
            refine sn_cV1r C vX6_digits lX6_195 rfl (by decide) rfl rfl dX6_command_65 (Nat.le_of_ble_eq_true rfl) (c_X6_digits_of hl htx hp1 (by decide) hd) (by decide) (by decide) (by decide) ?_
            refine sw_istore_2 C rfl dX6_command_68 ?_
            refine sw_iload_1 C dX6_command_69 ?_
            refine sn_bipush C 8 (by decide) dX6_command_70 ?_
            refine sn_icmp_ge C 112 (by decide) (by decide) dX6_command_72 (by decide) (fun c72 => ?_) (fun c72 => ?_)
            · exfalso; omega
            · refine sw_iload_1 C dX6_command_75 ?_
              refine sn_iconst C 5 (by decide) dX6_command_76 ?_
              refine sn_icmp_eq C 112 (by decide) (by decide) dX6_command_77 (by decide) (fun c77 => ?_) (fun c77 => ?_)
              · exfalso; omega
              · refine sw_aload_0 C dX6_command_80 ?_
                refine sn_getIe C (1) (mRd_w.trans (if_pos h0)) fX6_185 rfl (by decide) rfl dX6_command_81 ?_
                refine sn_if_ne C 112 (by decide) dX6_command_84 (by decide) (fun c84 => ?_) (fun c84 => ?_)
                · refine sw_aload_0 C dX6_command_112 ?_
                  refine sn_getIe C (1) (mRd_w.trans (if_pos h0)) fX6_185 rfl (by decide) rfl dX6_command_113 ?_
                  refine sn_if_ne C 126 (by decide) dX6_command_116 (by decide) (fun c116 => ?_) (fun c116 => ?_)
                  · exact sn_vret C rfl hF dX6_command_126 (by decide) (by decide) (by rw [if_pos h0]) rfl rfl
                  · exact absurd c116 (by decide)
                · exact absurd c84 (by decide)
          · exfalso; omega
    · exfalso; omega
  · exact absurd rfl c13

set_option maxRecDepth 100000 in
set_option maxHeartbeats 4000000 in
theorem c3b_X6_command {l : Launch} (hl : l.stackTraces = false) {G : zG} {S : zS} {J : Int64} {E : UInt64} {n t : Nat} (hm : mNow S n t) (htx : mTx S) (hW : mWds S) (hdo : S 12 20 < 2 ^ 32) {h : Nat} (hh : h ≤ S 12 17) {L : Nat → Nat} {p1 nf : Nat} (hr : mWd (mS S) h 8 0 = (3, p1, 0, nf)) (hp1 : p1 ≤ S 12 17) {p2 x : Nat} (hd : mDg (mS S) 2 p1 0 = (p2, x)) (hx : x < 100) (hp2 : p2 ≤ S 12 17) (h0 : ¬ p2 = p1) {y p wr : Nat} (hb : mBh (mS S) 1 p2 = (y, p, wr)) (hwr : wr ≤ 1) (hy : y < 100) : nCR l G mX6_command 9 0 0 [.ref 12] (mRd S h 0 L) J E none (if wr = 0 ∧ ¬ S 12 20 = 0 then (mDoes (mRd S p 0 (mWL (mS S) h nf)) n t 3 x y).2 else mRd S p wr (mWL (mS S) h nf)) J E := by
  refine nCR.of hl (by decide) rfl (Nat.le_of_ble_eq_true rfl) (ls := [some (.ref 12), none, none, none, none]) rfl (fun X C hF hX => ?_)
  subst hX
  refine sw_aload_0 C dX6_command_0 ?_
  refine sn_cV0r C vX6_word lX6_198 rfl (by decide) rfl rfl dX6_command_1 (Nat.le_of_ble_eq_true rfl) (c_X6_word_of hl htx hW hh hr) (by decide) (by decide) (by decide) ?_
  refine sw_istore_1 C rfl dX6_command_4 ?_
  refine sn_iconst C 1 (by decide) dX6_command_5 ?_
  refine sw_istore_2 C rfl dX6_command_6 ?_
  refine sn_iconst C 0 (by decide) dX6_command_7 ?_
  refine sw_istore_3 C rfl dX6_command_8 ?_
  refine sw_aload_0 C dX6_command_9 ?_
  refine sn_getIe C (0) rfl fX6_185 rfl (by decide) rfl dX6_command_10 ?_
  refine sn_if_eq C 17 (by decide) dX6_command_13 (by decide) (fun c13 => ?_) (fun c13 => ?_)
  · refine sw_iload_1 C dX6_command_17 ?_
    refine sn_bipush C 8 (by decide) dX6_command_18 ?_
    refine sn_icmp_ne C 38 (by decide) (by decide) dX6_command_20 (by decide) (fun c20 => ?_) (fun c20 => ?_)
    · refine sw_iload_1 C dX6_command_38 ?_
      refine sn_bipush C 8 (by decide) dX6_command_39 ?_
      refine sn_icmp_ge C 69 (by decide) (by decide) dX6_command_41 (by decide) (fun c41 => ?_) (fun c41 => ?_)
      · exfalso; omega
      · refine sw_aload_0 C dX6_command_44 ?_
        refine sw_iload_1 C dX6_command_45 ?_
        refine sn_if_eq C 60 (by decide) dX6_command_46 (by decide) (fun c46 => ?_) (fun c46 => ?_)
        · exfalso; omega
        · refine sw_iload_1 C dX6_command_49 ?_
          refine sn_iconst C 4 (by decide) dX6_command_50 ?_
          refine sn_icmp_lt C 64 (by decide) (by decide) dX6_command_51 (by decide) (fun c51 => ?_) (fun c51 => ?_)
          · refine sn_iconst C 2 (by decide) dX6_command_64 ?_
            refine sn_cV1r C vX6_digits lX6_195 rfl (by decide) rfl rfl dX6_command_65 (Nat.le_of_ble_eq_true rfl) (c_X6_digits_of hl htx hp1 (by decide) hd) (by decide) (by decide) (by decide) ?_
            refine sw_istore_2 C rfl dX6_command_68 ?_
            rw [if_neg h0]
            refine sw_iload_1 C dX6_command_69 ?_
            refine sn_bipush C 8 (by decide) dX6_command_70 ?_
            refine sn_icmp_ge C 112 (by decide) (by decide) dX6_command_72 (by decide) (fun c72 => ?_) (fun c72 => ?_)
            · exfalso; omega
            · refine sw_iload_1 C dX6_command_75 ?_
              refine sn_iconst C 5 (by decide) dX6_command_76 ?_
              refine sn_icmp_eq C 112 (by decide) (by decide) dX6_command_77 (by decide) (fun c77 => ?_) (fun c77 => ?_)
              · exfalso; omega
              · refine sw_aload_0 C dX6_command_80 ?_
                refine sn_getIe C (0) rfl fX6_185 rfl (by decide) rfl dX6_command_81 ?_
                refine sn_if_ne C 112 (by decide) dX6_command_84 (by decide) (fun c84 => ?_) (fun c84 => ?_)
                · exact absurd rfl c84
                · refine sw_aload_0 C dX6_command_87 ?_
                  refine sw_iload_1 C dX6_command_88 ?_
                  refine sn_iconst C 1 (by decide) dX6_command_89 ?_
                  refine sn_icmp_eq C 103 (by decide) (by decide) dX6_command_90 (by decide) (fun c90 => ?_) (fun c90 => ?_)
                  · exfalso; omega
                  · refine sw_iload_1 C dX6_command_93 ?_
                    refine sn_iconst C 2 (by decide) dX6_command_94 ?_
                    refine sn_icmp_eq C 103 (by decide) (by decide) dX6_command_95 (by decide) (fun c95 => ?_) (fun c95 => ?_)
                    · exfalso; omega
                    · refine sw_iload_1 C dX6_command_98 ?_
                      refine sn_iconst C 4 (by decide) dX6_command_99 ?_
                      refine sn_icmp_ne C 107 (by decide) (by decide) dX6_command_100 (by decide) (fun c100 => ?_) (fun c100 => ?_)
                      · refine sn_iconst C 1 (by decide) dX6_command_107 ?_
                        refine sn_cV1r C vX6_behind lX6_201 rfl (by decide) rfl rfl dX6_command_108 (Nat.le_of_ble_eq_true rfl) (c_X6_behind_of hl htx hp2 (by decide) hb) (by decide) (by decide) (by decide) ?_
                        refine sw_istore_3 C rfl dX6_command_111 ?_
                        refine sw_aload_0 C dX6_command_112 ?_
                        refine sn_getIe C (wr) rfl fX6_185 rfl (by decide) rfl dX6_command_113 ?_
                        refine sn_if_ne C 126 (by omega) dX6_command_116 (by decide) (fun c116 => ?_) (fun c116 => ?_)
                        · exact sn_vret C rfl hF dX6_command_126 (by decide) (by decide) (by first | (rw [if_pos ⟨rfl, c123⟩]; done) | (rw [if_neg (fun hc => hc.2 c123)]; done) | (rw [if_neg (fun hc => c116 hc.1)]; done)) rfl rfl
                        · subst c116
                          refine sw_aload_0 C dX6_command_119 ?_
                          refine sn_getIe C (S 12 20) rfl fX6_204 rfl (by decide) rfl dX6_command_120 ?_
                          refine sn_if_ne C 127 hdo dX6_command_123 (by decide) (fun c123 => ?_) (fun c123 => ?_)
                          · refine sw_aload_0 C dX6_command_127 ?_
                            refine sw_iload_1 C dX6_command_128 ?_
                            refine sw_iload_2 C dX6_command_129 ?_
                            refine sw_iload_3 C dX6_command_130 ?_
                            refine sn_cV3r C vX6_does lX6_207 rfl (by decide) rfl rfl dX6_command_131 (Nat.le_of_ble_eq_true rfl) (c_X6_does hl (S := mRd S p 0 (mWL (mS S) h nf)) (mNow_row (fun b _ => mRd_at (by decide) (by decide)) hm) (by decide) (by omega) (by omega)) (by decide) (by decide) (by decide) ?_
                            refine sw_istore_4 C rfl dX6_command_134 ?_
                            exact sn_vret C rfl hF dX6_command_136 (by decide) (by decide) (by first | (rw [if_pos ⟨rfl, c123⟩]; done) | (rw [if_neg (fun hc => hc.2 c123)]; done) | (rw [if_neg (fun hc => c116 hc.1)]; done)) rfl rfl
                          · exact sn_vret C rfl hF dX6_command_126 (by decide) (by decide) (by first | (rw [if_pos ⟨rfl, c123⟩]; done) | (rw [if_neg (fun hc => hc.2 c123)]; done) | (rw [if_neg (fun hc => c116 hc.1)]; done)) rfl rfl
                      · exfalso; omega
          · exfalso; omega
    · exfalso; omega
  · exact absurd rfl c13

set_option maxRecDepth 100000 in
set_option maxHeartbeats 4000000 in
theorem c4a_X6_command {l : Launch} (hl : l.stackTraces = false) {G : zG} {S : zS} {J : Int64} {E : UInt64} {n t : Nat} (hm : mNow S n t) (htx : mTx S) (hW : mWds S) (hdo : S 12 20 < 2 ^ 32) {h : Nat} (hh : h ≤ S 12 17) {L : Nat → Nat} {p1 nf : Nat} (hr : mWd (mS S) h 8 0 = (4, p1, 0, nf)) (hp1 : p1 ≤ S 12 17) {p2 x : Nat} (hd : mDg (mS S) 1 p1 0 = (p2, x)) (hx : x < 100) (hp2 : p2 ≤ S 12 17) (h0 : p2 = p1) : nCR l G mX6_command 9 0 0 [.ref 12] (mRd S h 0 L) J E none (mRd S p2 1 (mWL (mS S) h nf)) J E := by
  refine nCR.of hl (by decide) rfl (Nat.le_of_ble_eq_true rfl) (ls := [some (.ref 12), none, none, none, none]) rfl (fun X C hF hX => ?_)
  subst hX
  refine sw_aload_0 C dX6_command_0 ?_
  refine sn_cV0r C vX6_word lX6_198 rfl (by decide) rfl rfl dX6_command_1 (Nat.le_of_ble_eq_true rfl) (c_X6_word_of hl htx hW hh hr) (by decide) (by decide) (by decide) ?_
  refine sw_istore_1 C rfl dX6_command_4 ?_
  refine sn_iconst C 1 (by decide) dX6_command_5 ?_
  refine sw_istore_2 C rfl dX6_command_6 ?_
  refine sn_iconst C 0 (by decide) dX6_command_7 ?_
  refine sw_istore_3 C rfl dX6_command_8 ?_
  refine sw_aload_0 C dX6_command_9 ?_
  refine sn_getIe C (0) rfl fX6_185 rfl (by decide) rfl dX6_command_10 ?_
  refine sn_if_eq C 17 (by decide) dX6_command_13 (by decide) (fun c13 => ?_) (fun c13 => ?_)
  · refine sw_iload_1 C dX6_command_17 ?_
    refine sn_bipush C 8 (by decide) dX6_command_18 ?_
    refine sn_icmp_ne C 38 (by decide) (by decide) dX6_command_20 (by decide) (fun c20 => ?_) (fun c20 => ?_)
    · refine sw_iload_1 C dX6_command_38 ?_
      refine sn_bipush C 8 (by decide) dX6_command_39 ?_
      refine sn_icmp_ge C 69 (by decide) (by decide) dX6_command_41 (by decide) (fun c41 => ?_) (fun c41 => ?_)
      · exfalso; omega
      · refine sw_aload_0 C dX6_command_44 ?_
        refine sw_iload_1 C dX6_command_45 ?_
        refine sn_if_eq C 60 (by decide) dX6_command_46 (by decide) (fun c46 => ?_) (fun c46 => ?_)
        · exfalso; omega
        · refine sw_iload_1 C dX6_command_49 ?_
          refine sn_iconst C 4 (by decide) dX6_command_50 ?_
          refine sn_icmp_lt C 64 (by decide) (by decide) dX6_command_51 (by decide) (fun c51 => ?_) (fun c51 => ?_)
          · exfalso; omega
          · refine sw_iload_1 C dX6_command_54 ?_
            refine sn_bipush C 6 (by decide) dX6_command_55 ?_
            refine sn_icmp_gt C 64 (by decide) (by decide) dX6_command_57 (by decide) (fun c57 => ?_) (fun c57 => ?_)
            · exfalso; omega
            · refine sn_iconst C 1 (by decide) dX6_command_60 ?_
              refine sw_goto C 65 dX6_command_61 (by decide) ?_
              refine sn_cV1r C vX6_digits lX6_195 rfl (by decide) rfl rfl dX6_command_65 (Nat.le_of_ble_eq_true rfl) (c_X6_digits_of hl htx hp1 (by decide) hd) (by decide) (by decide) (by decide) ?_
              refine sw_istore_2 C rfl dX6_command_68 ?_
              refine sw_iload_1 C dX6_command_69 ?_
              refine sn_bipush C 8 (by decide) dX6_command_70 ?_
              refine sn_icmp_ge C 112 (by decide) (by decide) dX6_command_72 (by decide) (fun c72 => ?_) (fun c72 => ?_)
              · exfalso; omega
              · refine sw_iload_1 C dX6_command_75 ?_
                refine sn_iconst C 5 (by decide) dX6_command_76 ?_
                refine sn_icmp_eq C 112 (by decide) (by decide) dX6_command_77 (by decide) (fun c77 => ?_) (fun c77 => ?_)
                · exfalso; omega
                · refine sw_aload_0 C dX6_command_80 ?_
                  refine sn_getIe C (1) (mRd_w.trans (if_pos h0)) fX6_185 rfl (by decide) rfl dX6_command_81 ?_
                  refine sn_if_ne C 112 (by decide) dX6_command_84 (by decide) (fun c84 => ?_) (fun c84 => ?_)
                  · refine sw_aload_0 C dX6_command_112 ?_
                    refine sn_getIe C (1) (mRd_w.trans (if_pos h0)) fX6_185 rfl (by decide) rfl dX6_command_113 ?_
                    refine sn_if_ne C 126 (by decide) dX6_command_116 (by decide) (fun c116 => ?_) (fun c116 => ?_)
                    · exact sn_vret C rfl hF dX6_command_126 (by decide) (by decide) (by rw [if_pos h0]) rfl rfl
                    · exact absurd c116 (by decide)
                  · exact absurd c84 (by decide)
    · exfalso; omega
  · exact absurd rfl c13

set_option maxRecDepth 100000 in
set_option maxHeartbeats 4000000 in
theorem c4b_X6_command {l : Launch} (hl : l.stackTraces = false) {G : zG} {S : zS} {J : Int64} {E : UInt64} {n t : Nat} (hm : mNow S n t) (htx : mTx S) (hW : mWds S) (hdo : S 12 20 < 2 ^ 32) {h : Nat} (hh : h ≤ S 12 17) {L : Nat → Nat} {p1 nf : Nat} (hr : mWd (mS S) h 8 0 = (4, p1, 0, nf)) (hp1 : p1 ≤ S 12 17) {p2 x : Nat} (hd : mDg (mS S) 1 p1 0 = (p2, x)) (hx : x < 100) (hp2 : p2 ≤ S 12 17) (h0 : ¬ p2 = p1) {y p wr : Nat} (hb : mBh (mS S) 2 p2 = (y, p, wr)) (hwr : wr ≤ 1) (hy : y < 100) : nCR l G mX6_command 9 0 0 [.ref 12] (mRd S h 0 L) J E none (if wr = 0 ∧ ¬ S 12 20 = 0 then (mDoes (mRd S p 0 (mWL (mS S) h nf)) n t 4 x y).2 else mRd S p wr (mWL (mS S) h nf)) J E := by
  refine nCR.of hl (by decide) rfl (Nat.le_of_ble_eq_true rfl) (ls := [some (.ref 12), none, none, none, none]) rfl (fun X C hF hX => ?_)
  subst hX
  refine sw_aload_0 C dX6_command_0 ?_
  refine sn_cV0r C vX6_word lX6_198 rfl (by decide) rfl rfl dX6_command_1 (Nat.le_of_ble_eq_true rfl) (c_X6_word_of hl htx hW hh hr) (by decide) (by decide) (by decide) ?_
  refine sw_istore_1 C rfl dX6_command_4 ?_
  refine sn_iconst C 1 (by decide) dX6_command_5 ?_
  refine sw_istore_2 C rfl dX6_command_6 ?_
  refine sn_iconst C 0 (by decide) dX6_command_7 ?_
  refine sw_istore_3 C rfl dX6_command_8 ?_
  refine sw_aload_0 C dX6_command_9 ?_
  refine sn_getIe C (0) rfl fX6_185 rfl (by decide) rfl dX6_command_10 ?_
  refine sn_if_eq C 17 (by decide) dX6_command_13 (by decide) (fun c13 => ?_) (fun c13 => ?_)
  · refine sw_iload_1 C dX6_command_17 ?_
    refine sn_bipush C 8 (by decide) dX6_command_18 ?_
    refine sn_icmp_ne C 38 (by decide) (by decide) dX6_command_20 (by decide) (fun c20 => ?_) (fun c20 => ?_)
    · refine sw_iload_1 C dX6_command_38 ?_
      refine sn_bipush C 8 (by decide) dX6_command_39 ?_
      refine sn_icmp_ge C 69 (by decide) (by decide) dX6_command_41 (by decide) (fun c41 => ?_) (fun c41 => ?_)
      · exfalso; omega
      · refine sw_aload_0 C dX6_command_44 ?_
        refine sw_iload_1 C dX6_command_45 ?_
        refine sn_if_eq C 60 (by decide) dX6_command_46 (by decide) (fun c46 => ?_) (fun c46 => ?_)
        · exfalso; omega
        · refine sw_iload_1 C dX6_command_49 ?_
          refine sn_iconst C 4 (by decide) dX6_command_50 ?_
          refine sn_icmp_lt C 64 (by decide) (by decide) dX6_command_51 (by decide) (fun c51 => ?_) (fun c51 => ?_)
          · exfalso; omega
          · refine sw_iload_1 C dX6_command_54 ?_
            refine sn_bipush C 6 (by decide) dX6_command_55 ?_
            refine sn_icmp_gt C 64 (by decide) (by decide) dX6_command_57 (by decide) (fun c57 => ?_) (fun c57 => ?_)
            · exfalso; omega
            · refine sn_iconst C 1 (by decide) dX6_command_60 ?_
              refine sw_goto C 65 dX6_command_61 (by decide) ?_
              refine sn_cV1r C vX6_digits lX6_195 rfl (by decide) rfl rfl dX6_command_65 (Nat.le_of_ble_eq_true rfl) (c_X6_digits_of hl htx hp1 (by decide) hd) (by decide) (by decide) (by decide) ?_
              refine sw_istore_2 C rfl dX6_command_68 ?_
              rw [if_neg h0]
              refine sw_iload_1 C dX6_command_69 ?_
              refine sn_bipush C 8 (by decide) dX6_command_70 ?_
              refine sn_icmp_ge C 112 (by decide) (by decide) dX6_command_72 (by decide) (fun c72 => ?_) (fun c72 => ?_)
              · exfalso; omega
              · refine sw_iload_1 C dX6_command_75 ?_
                refine sn_iconst C 5 (by decide) dX6_command_76 ?_
                refine sn_icmp_eq C 112 (by decide) (by decide) dX6_command_77 (by decide) (fun c77 => ?_) (fun c77 => ?_)
                · exfalso; omega
                · refine sw_aload_0 C dX6_command_80 ?_
                  refine sn_getIe C (0) rfl fX6_185 rfl (by decide) rfl dX6_command_81 ?_
                  refine sn_if_ne C 112 (by decide) dX6_command_84 (by decide) (fun c84 => ?_) (fun c84 => ?_)
                  · exact absurd rfl c84
                  · refine sw_aload_0 C dX6_command_87 ?_
                    refine sw_iload_1 C dX6_command_88 ?_
                    refine sn_iconst C 1 (by decide) dX6_command_89 ?_
                    refine sn_icmp_eq C 103 (by decide) (by decide) dX6_command_90 (by decide) (fun c90 => ?_) (fun c90 => ?_)
                    · exfalso; omega
                    · refine sw_iload_1 C dX6_command_93 ?_
                      refine sn_iconst C 2 (by decide) dX6_command_94 ?_
                      refine sn_icmp_eq C 103 (by decide) (by decide) dX6_command_95 (by decide) (fun c95 => ?_) (fun c95 => ?_)
                      · exfalso; omega
                      · refine sw_iload_1 C dX6_command_98 ?_
                        refine sn_iconst C 4 (by decide) dX6_command_99 ?_
                        refine sn_icmp_ne C 107 (by decide) (by decide) dX6_command_100 (by decide) (fun c100 => ?_) (fun c100 => ?_)
                        · exfalso; omega
                        · refine sn_iconst C 2 (by decide) dX6_command_103 ?_
                          refine sw_goto C 108 dX6_command_104 (by decide) ?_
                          refine sn_cV1r C vX6_behind lX6_201 rfl (by decide) rfl rfl dX6_command_108 (Nat.le_of_ble_eq_true rfl) (c_X6_behind_of hl htx hp2 (by decide) hb) (by decide) (by decide) (by decide) ?_
                          refine sw_istore_3 C rfl dX6_command_111 ?_
                          refine sw_aload_0 C dX6_command_112 ?_
                          refine sn_getIe C (wr) rfl fX6_185 rfl (by decide) rfl dX6_command_113 ?_
                          refine sn_if_ne C 126 (by omega) dX6_command_116 (by decide) (fun c116 => ?_) (fun c116 => ?_)
                          · exact sn_vret C rfl hF dX6_command_126 (by decide) (by decide) (by first | (rw [if_pos ⟨rfl, c123⟩]; done) | (rw [if_neg (fun hc => hc.2 c123)]; done) | (rw [if_neg (fun hc => c116 hc.1)]; done)) rfl rfl
                          · subst c116
                            refine sw_aload_0 C dX6_command_119 ?_
                            refine sn_getIe C (S 12 20) rfl fX6_204 rfl (by decide) rfl dX6_command_120 ?_
                            refine sn_if_ne C 127 hdo dX6_command_123 (by decide) (fun c123 => ?_) (fun c123 => ?_)
                            · refine sw_aload_0 C dX6_command_127 ?_
                              refine sw_iload_1 C dX6_command_128 ?_
                              refine sw_iload_2 C dX6_command_129 ?_
                              refine sw_iload_3 C dX6_command_130 ?_
                              refine sn_cV3r C vX6_does lX6_207 rfl (by decide) rfl rfl dX6_command_131 (Nat.le_of_ble_eq_true rfl) (c_X6_does hl (S := mRd S p 0 (mWL (mS S) h nf)) (mNow_row (fun b _ => mRd_at (by decide) (by decide)) hm) (by decide) (by omega) (by omega)) (by decide) (by decide) (by decide) ?_
                              refine sw_istore_4 C rfl dX6_command_134 ?_
                              exact sn_vret C rfl hF dX6_command_136 (by decide) (by decide) (by first | (rw [if_pos ⟨rfl, c123⟩]; done) | (rw [if_neg (fun hc => hc.2 c123)]; done) | (rw [if_neg (fun hc => c116 hc.1)]; done)) rfl rfl
                            · exact sn_vret C rfl hF dX6_command_126 (by decide) (by decide) (by first | (rw [if_pos ⟨rfl, c123⟩]; done) | (rw [if_neg (fun hc => hc.2 c123)]; done) | (rw [if_neg (fun hc => c116 hc.1)]; done)) rfl rfl
    · exfalso; omega
  · exact absurd rfl c13

set_option maxRecDepth 100000 in
set_option maxHeartbeats 4000000 in
theorem c5a_X6_command {l : Launch} (hl : l.stackTraces = false) {G : zG} {S : zS} {J : Int64} {E : UInt64} {n t : Nat} (hm : mNow S n t) (htx : mTx S) (hW : mWds S) (hdo : S 12 20 < 2 ^ 32) {h : Nat} (hh : h ≤ S 12 17) {L : Nat → Nat} {p1 nf : Nat} (hr : mWd (mS S) h 8 0 = (5, p1, 0, nf)) (hp1 : p1 ≤ S 12 17) {p2 x : Nat} (hd : mDg (mS S) 1 p1 0 = (p2, x)) (hx : x < 100) (hp2 : p2 ≤ S 12 17) (h0 : p2 = p1) : nCR l G mX6_command 9 0 0 [.ref 12] (mRd S h 0 L) J E none (mRd S p2 1 (mWL (mS S) h nf)) J E := by
  refine nCR.of hl (by decide) rfl (Nat.le_of_ble_eq_true rfl) (ls := [some (.ref 12), none, none, none, none]) rfl (fun X C hF hX => ?_)
  subst hX
  refine sw_aload_0 C dX6_command_0 ?_
  refine sn_cV0r C vX6_word lX6_198 rfl (by decide) rfl rfl dX6_command_1 (Nat.le_of_ble_eq_true rfl) (c_X6_word_of hl htx hW hh hr) (by decide) (by decide) (by decide) ?_
  refine sw_istore_1 C rfl dX6_command_4 ?_
  refine sn_iconst C 1 (by decide) dX6_command_5 ?_
  refine sw_istore_2 C rfl dX6_command_6 ?_
  refine sn_iconst C 0 (by decide) dX6_command_7 ?_
  refine sw_istore_3 C rfl dX6_command_8 ?_
  refine sw_aload_0 C dX6_command_9 ?_
  refine sn_getIe C (0) rfl fX6_185 rfl (by decide) rfl dX6_command_10 ?_
  refine sn_if_eq C 17 (by decide) dX6_command_13 (by decide) (fun c13 => ?_) (fun c13 => ?_)
  · refine sw_iload_1 C dX6_command_17 ?_
    refine sn_bipush C 8 (by decide) dX6_command_18 ?_
    refine sn_icmp_ne C 38 (by decide) (by decide) dX6_command_20 (by decide) (fun c20 => ?_) (fun c20 => ?_)
    · refine sw_iload_1 C dX6_command_38 ?_
      refine sn_bipush C 8 (by decide) dX6_command_39 ?_
      refine sn_icmp_ge C 69 (by decide) (by decide) dX6_command_41 (by decide) (fun c41 => ?_) (fun c41 => ?_)
      · exfalso; omega
      · refine sw_aload_0 C dX6_command_44 ?_
        refine sw_iload_1 C dX6_command_45 ?_
        refine sn_if_eq C 60 (by decide) dX6_command_46 (by decide) (fun c46 => ?_) (fun c46 => ?_)
        · exfalso; omega
        · refine sw_iload_1 C dX6_command_49 ?_
          refine sn_iconst C 4 (by decide) dX6_command_50 ?_
          refine sn_icmp_lt C 64 (by decide) (by decide) dX6_command_51 (by decide) (fun c51 => ?_) (fun c51 => ?_)
          · exfalso; omega
          · refine sw_iload_1 C dX6_command_54 ?_
            refine sn_bipush C 6 (by decide) dX6_command_55 ?_
            refine sn_icmp_gt C 64 (by decide) (by decide) dX6_command_57 (by decide) (fun c57 => ?_) (fun c57 => ?_)
            · exfalso; omega
            · refine sn_iconst C 1 (by decide) dX6_command_60 ?_
              refine sw_goto C 65 dX6_command_61 (by decide) ?_
              refine sn_cV1r C vX6_digits lX6_195 rfl (by decide) rfl rfl dX6_command_65 (Nat.le_of_ble_eq_true rfl) (c_X6_digits_of hl htx hp1 (by decide) hd) (by decide) (by decide) (by decide) ?_
              refine sw_istore_2 C rfl dX6_command_68 ?_
              refine sw_iload_1 C dX6_command_69 ?_
              refine sn_bipush C 8 (by decide) dX6_command_70 ?_
              refine sn_icmp_ge C 112 (by decide) (by decide) dX6_command_72 (by decide) (fun c72 => ?_) (fun c72 => ?_)
              · exfalso; omega
              · refine sw_iload_1 C dX6_command_75 ?_
                refine sn_iconst C 5 (by decide) dX6_command_76 ?_
                refine sn_icmp_eq C 112 (by decide) (by decide) dX6_command_77 (by decide) (fun c77 => ?_) (fun c77 => ?_)
                · refine sw_aload_0 C dX6_command_112 ?_
                  refine sn_getIe C (1) (mRd_w.trans (if_pos h0)) fX6_185 rfl (by decide) rfl dX6_command_113 ?_
                  refine sn_if_ne C 126 (by decide) dX6_command_116 (by decide) (fun c116 => ?_) (fun c116 => ?_)
                  · exact sn_vret C rfl hF dX6_command_126 (by decide) (by decide) (by rw [if_pos h0]) rfl rfl
                  · exact absurd c116 (by decide)
                · exfalso; omega
    · exfalso; omega
  · exact absurd rfl c13

set_option maxRecDepth 100000 in
set_option maxHeartbeats 4000000 in
theorem c5b_X6_command {l : Launch} (hl : l.stackTraces = false) {G : zG} {S : zS} {J : Int64} {E : UInt64} {n t : Nat} (hm : mNow S n t) (htx : mTx S) (hW : mWds S) (hdo : S 12 20 < 2 ^ 32) {h : Nat} (hh : h ≤ S 12 17) {L : Nat → Nat} {p1 nf : Nat} (hr : mWd (mS S) h 8 0 = (5, p1, 0, nf)) (hp1 : p1 ≤ S 12 17) {p2 x : Nat} (hd : mDg (mS S) 1 p1 0 = (p2, x)) (hx : x < 100) (hp2 : p2 ≤ S 12 17) (h0 : ¬ p2 = p1) : nCR l G mX6_command 9 0 0 [.ref 12] (mRd S h 0 L) J E none (if 0 = 0 ∧ ¬ S 12 20 = 0 then (mDoes (mRd S p2 0 (mWL (mS S) h nf)) n t 5 x 0).2 else mRd S p2 0 (mWL (mS S) h nf)) J E := by
  refine nCR.of hl (by decide) rfl (Nat.le_of_ble_eq_true rfl) (ls := [some (.ref 12), none, none, none, none]) rfl (fun X C hF hX => ?_)
  subst hX
  refine sw_aload_0 C dX6_command_0 ?_
  refine sn_cV0r C vX6_word lX6_198 rfl (by decide) rfl rfl dX6_command_1 (Nat.le_of_ble_eq_true rfl) (c_X6_word_of hl htx hW hh hr) (by decide) (by decide) (by decide) ?_
  refine sw_istore_1 C rfl dX6_command_4 ?_
  refine sn_iconst C 1 (by decide) dX6_command_5 ?_
  refine sw_istore_2 C rfl dX6_command_6 ?_
  refine sn_iconst C 0 (by decide) dX6_command_7 ?_
  refine sw_istore_3 C rfl dX6_command_8 ?_
  refine sw_aload_0 C dX6_command_9 ?_
  refine sn_getIe C (0) rfl fX6_185 rfl (by decide) rfl dX6_command_10 ?_
  refine sn_if_eq C 17 (by decide) dX6_command_13 (by decide) (fun c13 => ?_) (fun c13 => ?_)
  · refine sw_iload_1 C dX6_command_17 ?_
    refine sn_bipush C 8 (by decide) dX6_command_18 ?_
    refine sn_icmp_ne C 38 (by decide) (by decide) dX6_command_20 (by decide) (fun c20 => ?_) (fun c20 => ?_)
    · refine sw_iload_1 C dX6_command_38 ?_
      refine sn_bipush C 8 (by decide) dX6_command_39 ?_
      refine sn_icmp_ge C 69 (by decide) (by decide) dX6_command_41 (by decide) (fun c41 => ?_) (fun c41 => ?_)
      · exfalso; omega
      · refine sw_aload_0 C dX6_command_44 ?_
        refine sw_iload_1 C dX6_command_45 ?_
        refine sn_if_eq C 60 (by decide) dX6_command_46 (by decide) (fun c46 => ?_) (fun c46 => ?_)
        · exfalso; omega
        · refine sw_iload_1 C dX6_command_49 ?_
          refine sn_iconst C 4 (by decide) dX6_command_50 ?_
          refine sn_icmp_lt C 64 (by decide) (by decide) dX6_command_51 (by decide) (fun c51 => ?_) (fun c51 => ?_)
          · exfalso; omega
          · refine sw_iload_1 C dX6_command_54 ?_
            refine sn_bipush C 6 (by decide) dX6_command_55 ?_
            refine sn_icmp_gt C 64 (by decide) (by decide) dX6_command_57 (by decide) (fun c57 => ?_) (fun c57 => ?_)
            · exfalso; omega
            · refine sn_iconst C 1 (by decide) dX6_command_60 ?_
              refine sw_goto C 65 dX6_command_61 (by decide) ?_
              refine sn_cV1r C vX6_digits lX6_195 rfl (by decide) rfl rfl dX6_command_65 (Nat.le_of_ble_eq_true rfl) (c_X6_digits_of hl htx hp1 (by decide) hd) (by decide) (by decide) (by decide) ?_
              refine sw_istore_2 C rfl dX6_command_68 ?_
              refine sw_iload_1 C dX6_command_69 ?_
              refine sn_bipush C 8 (by decide) dX6_command_70 ?_
              refine sn_icmp_ge C 112 (by decide) (by decide) dX6_command_72 (by decide) (fun c72 => ?_) (fun c72 => ?_)
              · exfalso; omega
              · refine sw_iload_1 C dX6_command_75 ?_
                refine sn_iconst C 5 (by decide) dX6_command_76 ?_
                refine sn_icmp_eq C 112 (by decide) (by decide) dX6_command_77 (by decide) (fun c77 => ?_) (fun c77 => ?_)
                · rw [if_neg h0]
                  refine sw_aload_0 C dX6_command_112 ?_
                  refine sn_getIe C (0) rfl fX6_185 rfl (by decide) rfl dX6_command_113 ?_
                  refine sn_if_ne C 126 (by decide) dX6_command_116 (by decide) (fun c116 => ?_) (fun c116 => ?_)
                  · exact absurd rfl c116
                  · refine sw_aload_0 C dX6_command_119 ?_
                    refine sn_getIe C (S 12 20) rfl fX6_204 rfl (by decide) rfl dX6_command_120 ?_
                    refine sn_if_ne C 127 hdo dX6_command_123 (by decide) (fun c123 => ?_) (fun c123 => ?_)
                    · refine sw_aload_0 C dX6_command_127 ?_
                      refine sw_iload_1 C dX6_command_128 ?_
                      refine sw_iload_2 C dX6_command_129 ?_
                      refine sw_iload_3 C dX6_command_130 ?_
                      refine sn_cV3r C vX6_does lX6_207 rfl (by decide) rfl rfl dX6_command_131 (Nat.le_of_ble_eq_true rfl) (c_X6_does hl (S := mRd S p2 0 (mWL (mS S) h nf)) (mNow_row (fun b _ => mRd_at (by decide) (by decide)) hm) (by decide) (by omega) (by omega)) (by decide) (by decide) (by decide) ?_
                      refine sw_istore_4 C rfl dX6_command_134 ?_
                      exact sn_vret C rfl hF dX6_command_136 (by decide) (by decide) (by first | (rw [if_pos ⟨rfl, c123⟩]; done) | (rw [if_neg (fun hc => hc.2 c123)]; done)) rfl rfl
                    · exact sn_vret C rfl hF dX6_command_126 (by decide) (by decide) (by first | (rw [if_pos ⟨rfl, c123⟩]; done) | (rw [if_neg (fun hc => hc.2 c123)]; done)) rfl rfl
                · exfalso; omega
    · exfalso; omega
  · exact absurd rfl c13

set_option maxRecDepth 100000 in
set_option maxHeartbeats 4000000 in
theorem c6a_X6_command {l : Launch} (hl : l.stackTraces = false) {G : zG} {S : zS} {J : Int64} {E : UInt64} {n t : Nat} (hm : mNow S n t) (htx : mTx S) (hW : mWds S) (hdo : S 12 20 < 2 ^ 32) {h : Nat} (hh : h ≤ S 12 17) {L : Nat → Nat} {p1 nf : Nat} (hr : mWd (mS S) h 8 0 = (6, p1, 0, nf)) (hp1 : p1 ≤ S 12 17) {p2 x : Nat} (hd : mDg (mS S) 1 p1 0 = (p2, x)) (hx : x < 100) (hp2 : p2 ≤ S 12 17) (h0 : p2 = p1) : nCR l G mX6_command 9 0 0 [.ref 12] (mRd S h 0 L) J E none (mRd S p2 1 (mWL (mS S) h nf)) J E := by
  refine nCR.of hl (by decide) rfl (Nat.le_of_ble_eq_true rfl) (ls := [some (.ref 12), none, none, none, none]) rfl (fun X C hF hX => ?_)
  subst hX
  refine sw_aload_0 C dX6_command_0 ?_
  refine sn_cV0r C vX6_word lX6_198 rfl (by decide) rfl rfl dX6_command_1 (Nat.le_of_ble_eq_true rfl) (c_X6_word_of hl htx hW hh hr) (by decide) (by decide) (by decide) ?_
  refine sw_istore_1 C rfl dX6_command_4 ?_
  refine sn_iconst C 1 (by decide) dX6_command_5 ?_
  refine sw_istore_2 C rfl dX6_command_6 ?_
  refine sn_iconst C 0 (by decide) dX6_command_7 ?_
  refine sw_istore_3 C rfl dX6_command_8 ?_
  refine sw_aload_0 C dX6_command_9 ?_
  refine sn_getIe C (0) rfl fX6_185 rfl (by decide) rfl dX6_command_10 ?_
  refine sn_if_eq C 17 (by decide) dX6_command_13 (by decide) (fun c13 => ?_) (fun c13 => ?_)
  · refine sw_iload_1 C dX6_command_17 ?_
    refine sn_bipush C 8 (by decide) dX6_command_18 ?_
    refine sn_icmp_ne C 38 (by decide) (by decide) dX6_command_20 (by decide) (fun c20 => ?_) (fun c20 => ?_)
    · refine sw_iload_1 C dX6_command_38 ?_
      refine sn_bipush C 8 (by decide) dX6_command_39 ?_
      refine sn_icmp_ge C 69 (by decide) (by decide) dX6_command_41 (by decide) (fun c41 => ?_) (fun c41 => ?_)
      · exfalso; omega
      · refine sw_aload_0 C dX6_command_44 ?_
        refine sw_iload_1 C dX6_command_45 ?_
        refine sn_if_eq C 60 (by decide) dX6_command_46 (by decide) (fun c46 => ?_) (fun c46 => ?_)
        · exfalso; omega
        · refine sw_iload_1 C dX6_command_49 ?_
          refine sn_iconst C 4 (by decide) dX6_command_50 ?_
          refine sn_icmp_lt C 64 (by decide) (by decide) dX6_command_51 (by decide) (fun c51 => ?_) (fun c51 => ?_)
          · exfalso; omega
          · refine sw_iload_1 C dX6_command_54 ?_
            refine sn_bipush C 6 (by decide) dX6_command_55 ?_
            refine sn_icmp_gt C 64 (by decide) (by decide) dX6_command_57 (by decide) (fun c57 => ?_) (fun c57 => ?_)
            · exfalso; omega
            · refine sn_iconst C 1 (by decide) dX6_command_60 ?_
              refine sw_goto C 65 dX6_command_61 (by decide) ?_
              refine sn_cV1r C vX6_digits lX6_195 rfl (by decide) rfl rfl dX6_command_65 (Nat.le_of_ble_eq_true rfl) (c_X6_digits_of hl htx hp1 (by decide) hd) (by decide) (by decide) (by decide) ?_
              refine sw_istore_2 C rfl dX6_command_68 ?_
              refine sw_iload_1 C dX6_command_69 ?_
              refine sn_bipush C 8 (by decide) dX6_command_70 ?_
              refine sn_icmp_ge C 112 (by decide) (by decide) dX6_command_72 (by decide) (fun c72 => ?_) (fun c72 => ?_)
              · exfalso; omega
              · refine sw_iload_1 C dX6_command_75 ?_
                refine sn_iconst C 5 (by decide) dX6_command_76 ?_
                refine sn_icmp_eq C 112 (by decide) (by decide) dX6_command_77 (by decide) (fun c77 => ?_) (fun c77 => ?_)
                · exfalso; omega
                · refine sw_aload_0 C dX6_command_80 ?_
                  refine sn_getIe C (1) (mRd_w.trans (if_pos h0)) fX6_185 rfl (by decide) rfl dX6_command_81 ?_
                  refine sn_if_ne C 112 (by decide) dX6_command_84 (by decide) (fun c84 => ?_) (fun c84 => ?_)
                  · refine sw_aload_0 C dX6_command_112 ?_
                    refine sn_getIe C (1) (mRd_w.trans (if_pos h0)) fX6_185 rfl (by decide) rfl dX6_command_113 ?_
                    refine sn_if_ne C 126 (by decide) dX6_command_116 (by decide) (fun c116 => ?_) (fun c116 => ?_)
                    · exact sn_vret C rfl hF dX6_command_126 (by decide) (by decide) (by rw [if_pos h0]) rfl rfl
                    · exact absurd c116 (by decide)
                  · exact absurd c84 (by decide)
    · exfalso; omega
  · exact absurd rfl c13

set_option maxRecDepth 100000 in
set_option maxHeartbeats 4000000 in
theorem c6b_X6_command {l : Launch} (hl : l.stackTraces = false) {G : zG} {S : zS} {J : Int64} {E : UInt64} {n t : Nat} (hm : mNow S n t) (htx : mTx S) (hW : mWds S) (hdo : S 12 20 < 2 ^ 32) {h : Nat} (hh : h ≤ S 12 17) {L : Nat → Nat} {p1 nf : Nat} (hr : mWd (mS S) h 8 0 = (6, p1, 0, nf)) (hp1 : p1 ≤ S 12 17) {p2 x : Nat} (hd : mDg (mS S) 1 p1 0 = (p2, x)) (hx : x < 100) (hp2 : p2 ≤ S 12 17) (h0 : ¬ p2 = p1) {y p wr : Nat} (hb : mBh (mS S) 1 p2 = (y, p, wr)) (hwr : wr ≤ 1) (hy : y < 100) : nCR l G mX6_command 9 0 0 [.ref 12] (mRd S h 0 L) J E none (if wr = 0 ∧ ¬ S 12 20 = 0 then (mDoes (mRd S p 0 (mWL (mS S) h nf)) n t 6 x y).2 else mRd S p wr (mWL (mS S) h nf)) J E := by
  refine nCR.of hl (by decide) rfl (Nat.le_of_ble_eq_true rfl) (ls := [some (.ref 12), none, none, none, none]) rfl (fun X C hF hX => ?_)
  subst hX
  refine sw_aload_0 C dX6_command_0 ?_
  refine sn_cV0r C vX6_word lX6_198 rfl (by decide) rfl rfl dX6_command_1 (Nat.le_of_ble_eq_true rfl) (c_X6_word_of hl htx hW hh hr) (by decide) (by decide) (by decide) ?_
  refine sw_istore_1 C rfl dX6_command_4 ?_
  refine sn_iconst C 1 (by decide) dX6_command_5 ?_
  refine sw_istore_2 C rfl dX6_command_6 ?_
  refine sn_iconst C 0 (by decide) dX6_command_7 ?_
  refine sw_istore_3 C rfl dX6_command_8 ?_
  refine sw_aload_0 C dX6_command_9 ?_
  refine sn_getIe C (0) rfl fX6_185 rfl (by decide) rfl dX6_command_10 ?_
  refine sn_if_eq C 17 (by decide) dX6_command_13 (by decide) (fun c13 => ?_) (fun c13 => ?_)
  · refine sw_iload_1 C dX6_command_17 ?_
    refine sn_bipush C 8 (by decide) dX6_command_18 ?_
    refine sn_icmp_ne C 38 (by decide) (by decide) dX6_command_20 (by decide) (fun c20 => ?_) (fun c20 => ?_)
    · refine sw_iload_1 C dX6_command_38 ?_
      refine sn_bipush C 8 (by decide) dX6_command_39 ?_
      refine sn_icmp_ge C 69 (by decide) (by decide) dX6_command_41 (by decide) (fun c41 => ?_) (fun c41 => ?_)
      · exfalso; omega
      · refine sw_aload_0 C dX6_command_44 ?_
        refine sw_iload_1 C dX6_command_45 ?_
        refine sn_if_eq C 60 (by decide) dX6_command_46 (by decide) (fun c46 => ?_) (fun c46 => ?_)
        · exfalso; omega
        · refine sw_iload_1 C dX6_command_49 ?_
          refine sn_iconst C 4 (by decide) dX6_command_50 ?_
          refine sn_icmp_lt C 64 (by decide) (by decide) dX6_command_51 (by decide) (fun c51 => ?_) (fun c51 => ?_)
          · exfalso; omega
          · refine sw_iload_1 C dX6_command_54 ?_
            refine sn_bipush C 6 (by decide) dX6_command_55 ?_
            refine sn_icmp_gt C 64 (by decide) (by decide) dX6_command_57 (by decide) (fun c57 => ?_) (fun c57 => ?_)
            · exfalso; omega
            · refine sn_iconst C 1 (by decide) dX6_command_60 ?_
              refine sw_goto C 65 dX6_command_61 (by decide) ?_
              refine sn_cV1r C vX6_digits lX6_195 rfl (by decide) rfl rfl dX6_command_65 (Nat.le_of_ble_eq_true rfl) (c_X6_digits_of hl htx hp1 (by decide) hd) (by decide) (by decide) (by decide) ?_
              refine sw_istore_2 C rfl dX6_command_68 ?_
              rw [if_neg h0]
              refine sw_iload_1 C dX6_command_69 ?_
              refine sn_bipush C 8 (by decide) dX6_command_70 ?_
              refine sn_icmp_ge C 112 (by decide) (by decide) dX6_command_72 (by decide) (fun c72 => ?_) (fun c72 => ?_)
              · exfalso; omega
              · refine sw_iload_1 C dX6_command_75 ?_
                refine sn_iconst C 5 (by decide) dX6_command_76 ?_
                refine sn_icmp_eq C 112 (by decide) (by decide) dX6_command_77 (by decide) (fun c77 => ?_) (fun c77 => ?_)
                · exfalso; omega
                · refine sw_aload_0 C dX6_command_80 ?_
                  refine sn_getIe C (0) rfl fX6_185 rfl (by decide) rfl dX6_command_81 ?_
                  refine sn_if_ne C 112 (by decide) dX6_command_84 (by decide) (fun c84 => ?_) (fun c84 => ?_)
                  · exact absurd rfl c84
                  · refine sw_aload_0 C dX6_command_87 ?_
                    refine sw_iload_1 C dX6_command_88 ?_
                    refine sn_iconst C 1 (by decide) dX6_command_89 ?_
                    refine sn_icmp_eq C 103 (by decide) (by decide) dX6_command_90 (by decide) (fun c90 => ?_) (fun c90 => ?_)
                    · exfalso; omega
                    · refine sw_iload_1 C dX6_command_93 ?_
                      refine sn_iconst C 2 (by decide) dX6_command_94 ?_
                      refine sn_icmp_eq C 103 (by decide) (by decide) dX6_command_95 (by decide) (fun c95 => ?_) (fun c95 => ?_)
                      · exfalso; omega
                      · refine sw_iload_1 C dX6_command_98 ?_
                        refine sn_iconst C 4 (by decide) dX6_command_99 ?_
                        refine sn_icmp_ne C 107 (by decide) (by decide) dX6_command_100 (by decide) (fun c100 => ?_) (fun c100 => ?_)
                        · refine sn_iconst C 1 (by decide) dX6_command_107 ?_
                          refine sn_cV1r C vX6_behind lX6_201 rfl (by decide) rfl rfl dX6_command_108 (Nat.le_of_ble_eq_true rfl) (c_X6_behind_of hl htx hp2 (by decide) hb) (by decide) (by decide) (by decide) ?_
                          refine sw_istore_3 C rfl dX6_command_111 ?_
                          refine sw_aload_0 C dX6_command_112 ?_
                          refine sn_getIe C (wr) rfl fX6_185 rfl (by decide) rfl dX6_command_113 ?_
                          refine sn_if_ne C 126 (by omega) dX6_command_116 (by decide) (fun c116 => ?_) (fun c116 => ?_)
                          · exact sn_vret C rfl hF dX6_command_126 (by decide) (by decide) (by first | (rw [if_pos ⟨rfl, c123⟩]; done) | (rw [if_neg (fun hc => hc.2 c123)]; done) | (rw [if_neg (fun hc => c116 hc.1)]; done)) rfl rfl
                          · subst c116
                            refine sw_aload_0 C dX6_command_119 ?_
                            refine sn_getIe C (S 12 20) rfl fX6_204 rfl (by decide) rfl dX6_command_120 ?_
                            refine sn_if_ne C 127 hdo dX6_command_123 (by decide) (fun c123 => ?_) (fun c123 => ?_)
                            · refine sw_aload_0 C dX6_command_127 ?_
                              refine sw_iload_1 C dX6_command_128 ?_
                              refine sw_iload_2 C dX6_command_129 ?_
                              refine sw_iload_3 C dX6_command_130 ?_
                              refine sn_cV3r C vX6_does lX6_207 rfl (by decide) rfl rfl dX6_command_131 (Nat.le_of_ble_eq_true rfl) (c_X6_does hl (S := mRd S p 0 (mWL (mS S) h nf)) (mNow_row (fun b _ => mRd_at (by decide) (by decide)) hm) (by decide) (by omega) (by omega)) (by decide) (by decide) (by decide) ?_
                              refine sw_istore_4 C rfl dX6_command_134 ?_
                              exact sn_vret C rfl hF dX6_command_136 (by decide) (by decide) (by first | (rw [if_pos ⟨rfl, c123⟩]; done) | (rw [if_neg (fun hc => hc.2 c123)]; done) | (rw [if_neg (fun hc => c116 hc.1)]; done)) rfl rfl
                            · exact sn_vret C rfl hF dX6_command_126 (by decide) (by decide) (by first | (rw [if_pos ⟨rfl, c123⟩]; done) | (rw [if_neg (fun hc => hc.2 c123)]; done) | (rw [if_neg (fun hc => c116 hc.1)]; done)) rfl rfl
                        · exfalso; omega
    · exfalso; omega
  · exact absurd rfl c13

set_option maxRecDepth 100000 in
set_option maxHeartbeats 4000000 in
theorem c7a_X6_command {l : Launch} (hl : l.stackTraces = false) {G : zG} {S : zS} {J : Int64} {E : UInt64} {n t : Nat} (hm : mNow S n t) (htx : mTx S) (hW : mWds S) (hdo : S 12 20 < 2 ^ 32) {h : Nat} (hh : h ≤ S 12 17) {L : Nat → Nat} {p1 nf : Nat} (hr : mWd (mS S) h 8 0 = (7, p1, 0, nf)) (hp1 : p1 ≤ S 12 17) {p2 x : Nat} (hd : mDg (mS S) 2 p1 0 = (p2, x)) (hx : x < 100) (hp2 : p2 ≤ S 12 17) (h0 : p2 = p1) : nCR l G mX6_command 9 0 0 [.ref 12] (mRd S h 0 L) J E none (mRd S p2 1 (mWL (mS S) h nf)) J E := by
  refine nCR.of hl (by decide) rfl (Nat.le_of_ble_eq_true rfl) (ls := [some (.ref 12), none, none, none, none]) rfl (fun X C hF hX => ?_)
  subst hX
  refine sw_aload_0 C dX6_command_0 ?_
  refine sn_cV0r C vX6_word lX6_198 rfl (by decide) rfl rfl dX6_command_1 (Nat.le_of_ble_eq_true rfl) (c_X6_word_of hl htx hW hh hr) (by decide) (by decide) (by decide) ?_
  refine sw_istore_1 C rfl dX6_command_4 ?_
  refine sn_iconst C 1 (by decide) dX6_command_5 ?_
  refine sw_istore_2 C rfl dX6_command_6 ?_
  refine sn_iconst C 0 (by decide) dX6_command_7 ?_
  refine sw_istore_3 C rfl dX6_command_8 ?_
  refine sw_aload_0 C dX6_command_9 ?_
  refine sn_getIe C (0) rfl fX6_185 rfl (by decide) rfl dX6_command_10 ?_
  refine sn_if_eq C 17 (by decide) dX6_command_13 (by decide) (fun c13 => ?_) (fun c13 => ?_)
  · refine sw_iload_1 C dX6_command_17 ?_
    refine sn_bipush C 8 (by decide) dX6_command_18 ?_
    refine sn_icmp_ne C 38 (by decide) (by decide) dX6_command_20 (by decide) (fun c20 => ?_) (fun c20 => ?_)
    · refine sw_iload_1 C dX6_command_38 ?_
      refine sn_bipush C 8 (by decide) dX6_command_39 ?_
      refine sn_icmp_ge C 69 (by decide) (by decide) dX6_command_41 (by decide) (fun c41 => ?_) (fun c41 => ?_)
      · exfalso; omega
      · refine sw_aload_0 C dX6_command_44 ?_
        refine sw_iload_1 C dX6_command_45 ?_
        refine sn_if_eq C 60 (by decide) dX6_command_46 (by decide) (fun c46 => ?_) (fun c46 => ?_)
        · exfalso; omega
        · refine sw_iload_1 C dX6_command_49 ?_
          refine sn_iconst C 4 (by decide) dX6_command_50 ?_
          refine sn_icmp_lt C 64 (by decide) (by decide) dX6_command_51 (by decide) (fun c51 => ?_) (fun c51 => ?_)
          · exfalso; omega
          · refine sw_iload_1 C dX6_command_54 ?_
            refine sn_bipush C 6 (by decide) dX6_command_55 ?_
            refine sn_icmp_gt C 64 (by decide) (by decide) dX6_command_57 (by decide) (fun c57 => ?_) (fun c57 => ?_)
            · refine sn_iconst C 2 (by decide) dX6_command_64 ?_
              refine sn_cV1r C vX6_digits lX6_195 rfl (by decide) rfl rfl dX6_command_65 (Nat.le_of_ble_eq_true rfl) (c_X6_digits_of hl htx hp1 (by decide) hd) (by decide) (by decide) (by decide) ?_
              refine sw_istore_2 C rfl dX6_command_68 ?_
              refine sw_iload_1 C dX6_command_69 ?_
              refine sn_bipush C 8 (by decide) dX6_command_70 ?_
              refine sn_icmp_ge C 112 (by decide) (by decide) dX6_command_72 (by decide) (fun c72 => ?_) (fun c72 => ?_)
              · exfalso; omega
              · refine sw_iload_1 C dX6_command_75 ?_
                refine sn_iconst C 5 (by decide) dX6_command_76 ?_
                refine sn_icmp_eq C 112 (by decide) (by decide) dX6_command_77 (by decide) (fun c77 => ?_) (fun c77 => ?_)
                · exfalso; omega
                · refine sw_aload_0 C dX6_command_80 ?_
                  refine sn_getIe C (1) (mRd_w.trans (if_pos h0)) fX6_185 rfl (by decide) rfl dX6_command_81 ?_
                  refine sn_if_ne C 112 (by decide) dX6_command_84 (by decide) (fun c84 => ?_) (fun c84 => ?_)
                  · refine sw_aload_0 C dX6_command_112 ?_
                    refine sn_getIe C (1) (mRd_w.trans (if_pos h0)) fX6_185 rfl (by decide) rfl dX6_command_113 ?_
                    refine sn_if_ne C 126 (by decide) dX6_command_116 (by decide) (fun c116 => ?_) (fun c116 => ?_)
                    · exact sn_vret C rfl hF dX6_command_126 (by decide) (by decide) (by rw [if_pos h0]) rfl rfl
                    · exact absurd c116 (by decide)
                  · exact absurd c84 (by decide)
            · exfalso; omega
    · exfalso; omega
  · exact absurd rfl c13

set_option maxRecDepth 100000 in
set_option maxHeartbeats 4000000 in
theorem c7b_X6_command {l : Launch} (hl : l.stackTraces = false) {G : zG} {S : zS} {J : Int64} {E : UInt64} {n t : Nat} (hm : mNow S n t) (htx : mTx S) (hW : mWds S) (hdo : S 12 20 < 2 ^ 32) {h : Nat} (hh : h ≤ S 12 17) {L : Nat → Nat} {p1 nf : Nat} (hr : mWd (mS S) h 8 0 = (7, p1, 0, nf)) (hp1 : p1 ≤ S 12 17) {p2 x : Nat} (hd : mDg (mS S) 2 p1 0 = (p2, x)) (hx : x < 100) (hp2 : p2 ≤ S 12 17) (h0 : ¬ p2 = p1) {y p wr : Nat} (hb : mBh (mS S) 1 p2 = (y, p, wr)) (hwr : wr ≤ 1) (hy : y < 100) : nCR l G mX6_command 9 0 0 [.ref 12] (mRd S h 0 L) J E none (if wr = 0 ∧ ¬ S 12 20 = 0 then (mDoes (mRd S p 0 (mWL (mS S) h nf)) n t 7 x y).2 else mRd S p wr (mWL (mS S) h nf)) J E := by
  refine nCR.of hl (by decide) rfl (Nat.le_of_ble_eq_true rfl) (ls := [some (.ref 12), none, none, none, none]) rfl (fun X C hF hX => ?_)
  subst hX
  refine sw_aload_0 C dX6_command_0 ?_
  refine sn_cV0r C vX6_word lX6_198 rfl (by decide) rfl rfl dX6_command_1 (Nat.le_of_ble_eq_true rfl) (c_X6_word_of hl htx hW hh hr) (by decide) (by decide) (by decide) ?_
  refine sw_istore_1 C rfl dX6_command_4 ?_
  refine sn_iconst C 1 (by decide) dX6_command_5 ?_
  refine sw_istore_2 C rfl dX6_command_6 ?_
  refine sn_iconst C 0 (by decide) dX6_command_7 ?_
  refine sw_istore_3 C rfl dX6_command_8 ?_
  refine sw_aload_0 C dX6_command_9 ?_
  refine sn_getIe C (0) rfl fX6_185 rfl (by decide) rfl dX6_command_10 ?_
  refine sn_if_eq C 17 (by decide) dX6_command_13 (by decide) (fun c13 => ?_) (fun c13 => ?_)
  · refine sw_iload_1 C dX6_command_17 ?_
    refine sn_bipush C 8 (by decide) dX6_command_18 ?_
    refine sn_icmp_ne C 38 (by decide) (by decide) dX6_command_20 (by decide) (fun c20 => ?_) (fun c20 => ?_)
    · refine sw_iload_1 C dX6_command_38 ?_
      refine sn_bipush C 8 (by decide) dX6_command_39 ?_
      refine sn_icmp_ge C 69 (by decide) (by decide) dX6_command_41 (by decide) (fun c41 => ?_) (fun c41 => ?_)
      · exfalso; omega
      · refine sw_aload_0 C dX6_command_44 ?_
        refine sw_iload_1 C dX6_command_45 ?_
        refine sn_if_eq C 60 (by decide) dX6_command_46 (by decide) (fun c46 => ?_) (fun c46 => ?_)
        · exfalso; omega
        · refine sw_iload_1 C dX6_command_49 ?_
          refine sn_iconst C 4 (by decide) dX6_command_50 ?_
          refine sn_icmp_lt C 64 (by decide) (by decide) dX6_command_51 (by decide) (fun c51 => ?_) (fun c51 => ?_)
          · exfalso; omega
          · refine sw_iload_1 C dX6_command_54 ?_
            refine sn_bipush C 6 (by decide) dX6_command_55 ?_
            refine sn_icmp_gt C 64 (by decide) (by decide) dX6_command_57 (by decide) (fun c57 => ?_) (fun c57 => ?_)
            · refine sn_iconst C 2 (by decide) dX6_command_64 ?_
              refine sn_cV1r C vX6_digits lX6_195 rfl (by decide) rfl rfl dX6_command_65 (Nat.le_of_ble_eq_true rfl) (c_X6_digits_of hl htx hp1 (by decide) hd) (by decide) (by decide) (by decide) ?_
              refine sw_istore_2 C rfl dX6_command_68 ?_
              rw [if_neg h0]
              refine sw_iload_1 C dX6_command_69 ?_
              refine sn_bipush C 8 (by decide) dX6_command_70 ?_
              refine sn_icmp_ge C 112 (by decide) (by decide) dX6_command_72 (by decide) (fun c72 => ?_) (fun c72 => ?_)
              · exfalso; omega
              · refine sw_iload_1 C dX6_command_75 ?_
                refine sn_iconst C 5 (by decide) dX6_command_76 ?_
                refine sn_icmp_eq C 112 (by decide) (by decide) dX6_command_77 (by decide) (fun c77 => ?_) (fun c77 => ?_)
                · exfalso; omega
                · refine sw_aload_0 C dX6_command_80 ?_
                  refine sn_getIe C (0) rfl fX6_185 rfl (by decide) rfl dX6_command_81 ?_
                  refine sn_if_ne C 112 (by decide) dX6_command_84 (by decide) (fun c84 => ?_) (fun c84 => ?_)
                  · exact absurd rfl c84
                  · refine sw_aload_0 C dX6_command_87 ?_
                    refine sw_iload_1 C dX6_command_88 ?_
                    refine sn_iconst C 1 (by decide) dX6_command_89 ?_
                    refine sn_icmp_eq C 103 (by decide) (by decide) dX6_command_90 (by decide) (fun c90 => ?_) (fun c90 => ?_)
                    · exfalso; omega
                    · refine sw_iload_1 C dX6_command_93 ?_
                      refine sn_iconst C 2 (by decide) dX6_command_94 ?_
                      refine sn_icmp_eq C 103 (by decide) (by decide) dX6_command_95 (by decide) (fun c95 => ?_) (fun c95 => ?_)
                      · exfalso; omega
                      · refine sw_iload_1 C dX6_command_98 ?_
                        refine sn_iconst C 4 (by decide) dX6_command_99 ?_
                        refine sn_icmp_ne C 107 (by decide) (by decide) dX6_command_100 (by decide) (fun c100 => ?_) (fun c100 => ?_)
                        · refine sn_iconst C 1 (by decide) dX6_command_107 ?_
                          refine sn_cV1r C vX6_behind lX6_201 rfl (by decide) rfl rfl dX6_command_108 (Nat.le_of_ble_eq_true rfl) (c_X6_behind_of hl htx hp2 (by decide) hb) (by decide) (by decide) (by decide) ?_
                          refine sw_istore_3 C rfl dX6_command_111 ?_
                          refine sw_aload_0 C dX6_command_112 ?_
                          refine sn_getIe C (wr) rfl fX6_185 rfl (by decide) rfl dX6_command_113 ?_
                          refine sn_if_ne C 126 (by omega) dX6_command_116 (by decide) (fun c116 => ?_) (fun c116 => ?_)
                          · exact sn_vret C rfl hF dX6_command_126 (by decide) (by decide) (by first | (rw [if_pos ⟨rfl, c123⟩]; done) | (rw [if_neg (fun hc => hc.2 c123)]; done) | (rw [if_neg (fun hc => c116 hc.1)]; done)) rfl rfl
                          · subst c116
                            refine sw_aload_0 C dX6_command_119 ?_
                            refine sn_getIe C (S 12 20) rfl fX6_204 rfl (by decide) rfl dX6_command_120 ?_
                            refine sn_if_ne C 127 hdo dX6_command_123 (by decide) (fun c123 => ?_) (fun c123 => ?_)
                            · refine sw_aload_0 C dX6_command_127 ?_
                              refine sw_iload_1 C dX6_command_128 ?_
                              refine sw_iload_2 C dX6_command_129 ?_
                              refine sw_iload_3 C dX6_command_130 ?_
                              refine sn_cV3r C vX6_does lX6_207 rfl (by decide) rfl rfl dX6_command_131 (Nat.le_of_ble_eq_true rfl) (c_X6_does hl (S := mRd S p 0 (mWL (mS S) h nf)) (mNow_row (fun b _ => mRd_at (by decide) (by decide)) hm) (by decide) (by omega) (by omega)) (by decide) (by decide) (by decide) ?_
                              refine sw_istore_4 C rfl dX6_command_134 ?_
                              exact sn_vret C rfl hF dX6_command_136 (by decide) (by decide) (by first | (rw [if_pos ⟨rfl, c123⟩]; done) | (rw [if_neg (fun hc => hc.2 c123)]; done) | (rw [if_neg (fun hc => c116 hc.1)]; done)) rfl rfl
                            · exact sn_vret C rfl hF dX6_command_126 (by decide) (by decide) (by first | (rw [if_pos ⟨rfl, c123⟩]; done) | (rw [if_neg (fun hc => hc.2 c123)]; done) | (rw [if_neg (fun hc => c116 hc.1)]; done)) rfl rfl
                        · exfalso; omega
            · exfalso; omega
    · exfalso; omega
  · exact absurd rfl c13

set_option maxRecDepth 100000 in
set_option maxHeartbeats 4000000 in
theorem c8a_X6_command {l : Launch} (hl : l.stackTraces = false) {G : zG} {S : zS} {J : Int64} {E : UInt64} {n t : Nat} (hm : mNow S n t) (htx : mTx S) (hW : mWds S) (hdo : S 12 20 < 2 ^ 32) {h : Nat} (hh : h ≤ S 12 17) {L : Nat → Nat} {p1 nf : Nat} (hr : mWd (mS S) h 8 0 = (8, p1, 0, nf)) (hp1 : p1 ≤ S 12 17) (h32 : mS S p1 = 32) {v p wr : Nat} (hb : mBh (mS S) 2 p1 = (v, p, wr)) (hwr : wr ≤ 1) (hv : v < 100) : nCR l G mX6_command 9 0 0 [.ref 12] (mRd S h 0 L) J E none (if wr = 0 ∧ ¬ S 12 20 = 0 then (mDoes (mRd S p 0 (mWL (mS S) h nf)) n t 8 v 0).2 else mRd S p wr (mWL (mS S) h nf)) J E := by
  refine nCR.of hl (by decide) rfl (Nat.le_of_ble_eq_true rfl) (ls := [some (.ref 12), none, none, none, none]) rfl (fun X C hF hX => ?_)
  subst hX
  refine sw_aload_0 C dX6_command_0 ?_
  refine sn_cV0r C vX6_word lX6_198 rfl (by decide) rfl rfl dX6_command_1 (Nat.le_of_ble_eq_true rfl) (c_X6_word_of hl htx hW hh hr) (by decide) (by decide) (by decide) ?_
  refine sw_istore_1 C rfl dX6_command_4 ?_
  refine sn_iconst C 1 (by decide) dX6_command_5 ?_
  refine sw_istore_2 C rfl dX6_command_6 ?_
  refine sn_iconst C 0 (by decide) dX6_command_7 ?_
  refine sw_istore_3 C rfl dX6_command_8 ?_
  refine sw_aload_0 C dX6_command_9 ?_
  refine sn_getIe C (0) rfl fX6_185 rfl (by decide) rfl dX6_command_10 ?_
  refine sn_if_eq C 17 (by decide) dX6_command_13 (by decide) (fun c13 => ?_) (fun c13 => ?_)
  · refine sw_iload_1 C dX6_command_17 ?_
    refine sn_bipush C 8 (by decide) dX6_command_18 ?_
    refine sn_icmp_ne C 38 (by decide) (by decide) dX6_command_20 (by decide) (fun c20 => ?_) (fun c20 => ?_)
    · exfalso; omega
    · refine sw_aload_0 C dX6_command_23 ?_
      refine sn_cV0r C vX6_sign lX6_189 rfl (by decide) rfl rfl dX6_command_24 (Nat.le_of_ble_eq_true rfl) (c_X6_sign hl htx hp1) (by decide) (by decide) (by decide) ?_
      refine sn_bipush C 32 (by decide) dX6_command_27 ?_
      refine sn_icmp_ne C 38 (mS_lt htx _) (by decide) dX6_command_29 (by decide) (fun c29 => ?_) (fun c29 => ?_)
      · exact absurd h32 c29
      · refine sw_aload_0 C dX6_command_32 ?_
        refine sn_iconst C 2 (by decide) dX6_command_33 ?_
        refine sn_cV1r C vX6_behind lX6_201 rfl (by decide) rfl rfl dX6_command_34 (Nat.le_of_ble_eq_true rfl) (c_X6_behind_of hl htx hp1 (by decide) hb) (by decide) (by decide) (by decide) ?_
        refine sw_istore_2 C rfl dX6_command_37 ?_
        refine sw_iload_1 C dX6_command_38 ?_
        refine sn_bipush C 8 (by decide) dX6_command_39 ?_
        refine sn_icmp_ge C 69 (by decide) (by decide) dX6_command_41 (by decide) (fun c41 => ?_) (fun c41 => ?_)
        · refine sw_iload_1 C dX6_command_69 ?_
          refine sn_bipush C 8 (by decide) dX6_command_70 ?_
          refine sn_icmp_ge C 112 (by decide) (by decide) dX6_command_72 (by decide) (fun c72 => ?_) (fun c72 => ?_)
          · refine sw_aload_0 C dX6_command_112 ?_
            refine sn_getIe C (wr) rfl fX6_185 rfl (by decide) rfl dX6_command_113 ?_
            refine sn_if_ne C 126 (by omega) dX6_command_116 (by decide) (fun c116 => ?_) (fun c116 => ?_)
            · exact sn_vret C rfl hF dX6_command_126 (by decide) (by decide) (by first | (rw [if_pos ⟨rfl, c123⟩]; done) | (rw [if_neg (fun hc => hc.2 c123)]; done) | (rw [if_neg (fun hc => c116 hc.1)]; done)) rfl rfl
            · subst c116
              refine sw_aload_0 C dX6_command_119 ?_
              refine sn_getIe C (S 12 20) rfl fX6_204 rfl (by decide) rfl dX6_command_120 ?_
              refine sn_if_ne C 127 hdo dX6_command_123 (by decide) (fun c123 => ?_) (fun c123 => ?_)
              · refine sw_aload_0 C dX6_command_127 ?_
                refine sw_iload_1 C dX6_command_128 ?_
                refine sw_iload_2 C dX6_command_129 ?_
                refine sw_iload_3 C dX6_command_130 ?_
                refine sn_cV3r C vX6_does lX6_207 rfl (by decide) rfl rfl dX6_command_131 (Nat.le_of_ble_eq_true rfl) (c_X6_does hl (S := mRd S p 0 (mWL (mS S) h nf)) (mNow_row (fun b _ => mRd_at (by decide) (by decide)) hm) (by decide) (by omega) (by omega)) (by decide) (by decide) (by decide) ?_
                refine sw_istore_4 C rfl dX6_command_134 ?_
                exact sn_vret C rfl hF dX6_command_136 (by decide) (by decide) (by first | (rw [if_pos ⟨rfl, c123⟩]; done) | (rw [if_neg (fun hc => hc.2 c123)]; done) | (rw [if_neg (fun hc => c116 hc.1)]; done)) rfl rfl
              · exact sn_vret C rfl hF dX6_command_126 (by decide) (by decide) (by first | (rw [if_pos ⟨rfl, c123⟩]; done) | (rw [if_neg (fun hc => hc.2 c123)]; done) | (rw [if_neg (fun hc => c116 hc.1)]; done)) rfl rfl
          · exfalso; omega
        · exfalso; omega
  · exact absurd rfl c13

set_option maxRecDepth 100000 in
set_option maxHeartbeats 4000000 in
theorem c8b_X6_command {l : Launch} (hl : l.stackTraces = false) {G : zG} {S : zS} {J : Int64} {E : UInt64} {n t : Nat} (hm : mNow S n t) (htx : mTx S) (hW : mWds S) (hdo : S 12 20 < 2 ^ 32) {h : Nat} (hh : h ≤ S 12 17) {L : Nat → Nat} {p1 nf : Nat} (hr : mWd (mS S) h 8 0 = (8, p1, 0, nf)) (hp1 : p1 ≤ S 12 17) (h32 : ¬ mS S p1 = 32) : nCR l G mX6_command 9 0 0 [.ref 12] (mRd S h 0 L) J E none (if 0 = 0 ∧ ¬ S 12 20 = 0 then (mDoes (mRd S p1 0 (mWL (mS S) h nf)) n t 8 1 0).2 else mRd S p1 0 (mWL (mS S) h nf)) J E := by
  refine nCR.of hl (by decide) rfl (Nat.le_of_ble_eq_true rfl) (ls := [some (.ref 12), none, none, none, none]) rfl (fun X C hF hX => ?_)
  subst hX
  refine sw_aload_0 C dX6_command_0 ?_
  refine sn_cV0r C vX6_word lX6_198 rfl (by decide) rfl rfl dX6_command_1 (Nat.le_of_ble_eq_true rfl) (c_X6_word_of hl htx hW hh hr) (by decide) (by decide) (by decide) ?_
  refine sw_istore_1 C rfl dX6_command_4 ?_
  refine sn_iconst C 1 (by decide) dX6_command_5 ?_
  refine sw_istore_2 C rfl dX6_command_6 ?_
  refine sn_iconst C 0 (by decide) dX6_command_7 ?_
  refine sw_istore_3 C rfl dX6_command_8 ?_
  refine sw_aload_0 C dX6_command_9 ?_
  refine sn_getIe C (0) rfl fX6_185 rfl (by decide) rfl dX6_command_10 ?_
  refine sn_if_eq C 17 (by decide) dX6_command_13 (by decide) (fun c13 => ?_) (fun c13 => ?_)
  · refine sw_iload_1 C dX6_command_17 ?_
    refine sn_bipush C 8 (by decide) dX6_command_18 ?_
    refine sn_icmp_ne C 38 (by decide) (by decide) dX6_command_20 (by decide) (fun c20 => ?_) (fun c20 => ?_)
    · exfalso; omega
    · refine sw_aload_0 C dX6_command_23 ?_
      refine sn_cV0r C vX6_sign lX6_189 rfl (by decide) rfl rfl dX6_command_24 (Nat.le_of_ble_eq_true rfl) (c_X6_sign hl htx hp1) (by decide) (by decide) (by decide) ?_
      refine sn_bipush C 32 (by decide) dX6_command_27 ?_
      refine sn_icmp_ne C 38 (mS_lt htx _) (by decide) dX6_command_29 (by decide) (fun c29 => ?_) (fun c29 => ?_)
      · refine sw_iload_1 C dX6_command_38 ?_
        refine sn_bipush C 8 (by decide) dX6_command_39 ?_
        refine sn_icmp_ge C 69 (by decide) (by decide) dX6_command_41 (by decide) (fun c41 => ?_) (fun c41 => ?_)
        · refine sw_iload_1 C dX6_command_69 ?_
          refine sn_bipush C 8 (by decide) dX6_command_70 ?_
          refine sn_icmp_ge C 112 (by decide) (by decide) dX6_command_72 (by decide) (fun c72 => ?_) (fun c72 => ?_)
          · refine sw_aload_0 C dX6_command_112 ?_
            refine sn_getIe C (0) rfl fX6_185 rfl (by decide) rfl dX6_command_113 ?_
            refine sn_if_ne C 126 (by decide) dX6_command_116 (by decide) (fun c116 => ?_) (fun c116 => ?_)
            · exact absurd rfl c116
            · refine sw_aload_0 C dX6_command_119 ?_
              refine sn_getIe C (S 12 20) rfl fX6_204 rfl (by decide) rfl dX6_command_120 ?_
              refine sn_if_ne C 127 hdo dX6_command_123 (by decide) (fun c123 => ?_) (fun c123 => ?_)
              · refine sw_aload_0 C dX6_command_127 ?_
                refine sw_iload_1 C dX6_command_128 ?_
                refine sw_iload_2 C dX6_command_129 ?_
                refine sw_iload_3 C dX6_command_130 ?_
                refine sn_cV3r C vX6_does lX6_207 rfl (by decide) rfl rfl dX6_command_131 (Nat.le_of_ble_eq_true rfl) (c_X6_does hl (S := mRd S p1 0 (mWL (mS S) h nf)) (mNow_row (fun b _ => mRd_at (by decide) (by decide)) hm) (by decide) (by omega) (by omega)) (by decide) (by decide) (by decide) ?_
                refine sw_istore_4 C rfl dX6_command_134 ?_
                exact sn_vret C rfl hF dX6_command_136 (by decide) (by decide) (by first | (rw [if_pos ⟨rfl, c123⟩]; done) | (rw [if_neg (fun hc => hc.2 c123)]; done)) rfl rfl
              · exact sn_vret C rfl hF dX6_command_126 (by decide) (by decide) (by first | (rw [if_pos ⟨rfl, c123⟩]; done) | (rw [if_neg (fun hc => hc.2 c123)]; done)) rfl rfl
          · exfalso; omega
        · exfalso; omega
      · exact absurd c29 h32
  · exact absurd rfl c13

set_option maxRecDepth 100000 in
set_option maxHeartbeats 4000000 in
theorem c_X6_command {l : Launch} (hl : l.stackTraces = false) {G : zG} {S : zS} {J : Int64} {E : UInt64} {n t : Nat} (hm : mNow S n t) (htx : mTx S) (hW : mWds S) (hdo : S 12 20 < 2 ^ 32) {h : Nat} (hh : h ≤ S 12 17) {L : Nat → Nat} : nCR l G mX6_command 9 0 0 [.ref 12] (mRd S h 0 L) J E none (mCmE S n t h) J E := by
  obtain ⟨⟨w, p1, wr, nf⟩, hr⟩ : ∃ T, mWd (mS S) h 8 0 = T := ⟨_, rfl⟩
  have hok := mWd_ok (sg := mS S) (p := h) 8 0
  have hp1 := mWd_len hh 8 0 hh
  rw [hr] at hok hp1
  dsimp only at hok hp1
  rcases hok with ⟨hwr, hw9⟩ | ⟨hwr, hw9⟩
  · subst hwr
    have hd3 : ∀ k, k ≤ 2 → (mDg (mS S) k p1 0).2 < 100 := fun k hk => by
      have h1 := mDg_val (sg := mS S) k p1 0
      have h2 : (0 + 1) * 10 ^ k ≤ (0 + 1) * 10 ^ 2 := Nat.mul_le_mul_left _ (Nat.pow_le_pow_right (by decide) hk)
      omega
    have hb3 : ∀ k q, k ≤ 2 → q ≤ S 12 17 → (mBh (mS S) k q).2.2 ≤ 1 ∧ (mBh (mS S) k q).1 < 100 := fun k q hk hq => by
      have h1 := mBh_len (k := k) hq
      have h2 : 1 * 10 ^ k ≤ 1 * 10 ^ 2 := Nat.mul_le_mul_left _ (Nat.pow_le_pow_right (by decide) hk)
      exact ⟨h1.2.1, by omega⟩
    match w, hw9 with
    | 0, _ =>
      obtain ⟨⟨p2, x⟩, hd⟩ : ∃ T, mDg (mS S) 1 p1 0 = T := ⟨_, rfl⟩
      have hx := hd3 1 (by decide)
      have hp2 := mDg_len 1 p1 0 hp1
      rw [hd] at hx hp2
      have hk1 : mDg (mS S) (mK1 0) p1 0 = (p2, x) := hd
      by_cases h0 : p2 = p1
      · have hC : mCm (mS S) h = (0, x, 0, p2, 1, nf) := by
          unfold mCm; rw [hr]; dsimp only
          rw [if_pos rfl, if_neg (by decide), hk1, if_pos (Or.inr h0), if_pos h0]
        rw [mCmE_of hC, if_neg (fun hc => absurd hc.1 (by decide))]
        exact c0a_X6_command hl hm htx hW hdo hh hr hp1 hd hx hp2 h0
      · obtain ⟨⟨y, p, wr⟩, hb⟩ : ∃ T, mBh (mS S) 1 p2 = T := ⟨_, rfl⟩
        have hb4 := hb3 1 p2 (by decide) hp2
        rw [hb] at hb4
        have hk2 : mBh (mS S) (mK2 0) p2 = (y, p, wr) := hb
        have hC : mCm (mS S) h = (0, x, y, p, wr, nf) := by
          unfold mCm; rw [hr]; dsimp only
          rw [if_pos rfl, if_neg (by decide), hk1, if_neg (by rintro (hc | hc); exact absurd hc (by decide); exact h0 hc), hk2]
        rw [mCmE_of hC]
        exact c0b_X6_command hl hm htx hW hdo hh hr hp1 hd hx hp2 h0 hb hb4.1 hb4.2
    | 1, _ =>
      obtain ⟨⟨p2, x⟩, hd⟩ : ∃ T, mDg (mS S) 2 p1 0 = T := ⟨_, rfl⟩
      have hx := hd3 2 (by decide)
      have hp2 := mDg_len 2 p1 0 hp1
      rw [hd] at hx hp2
      have hk1 : mDg (mS S) (mK1 1) p1 0 = (p2, x) := hd
      by_cases h0 : p2 = p1
      · have hC : mCm (mS S) h = (1, x, 0, p2, 1, nf) := by
          unfold mCm; rw [hr]; dsimp only
          rw [if_pos rfl, if_neg (by decide), hk1, if_pos (Or.inr h0), if_pos h0]
        rw [mCmE_of hC, if_neg (fun hc => absurd hc.1 (by decide))]
        exact c1a_X6_command hl hm htx hW hdo hh hr hp1 hd hx hp2 h0
      · obtain ⟨⟨y, p, wr⟩, hb⟩ : ∃ T, mBh (mS S) 2 p2 = T := ⟨_, rfl⟩
        have hb4 := hb3 2 p2 (by decide) hp2
        rw [hb] at hb4
        have hk2 : mBh (mS S) (mK2 1) p2 = (y, p, wr) := hb
        have hC : mCm (mS S) h = (1, x, y, p, wr, nf) := by
          unfold mCm; rw [hr]; dsimp only
          rw [if_pos rfl, if_neg (by decide), hk1, if_neg (by rintro (hc | hc); exact absurd hc (by decide); exact h0 hc), hk2]
        rw [mCmE_of hC]
        exact c1b_X6_command hl hm htx hW hdo hh hr hp1 hd hx hp2 h0 hb hb4.1 hb4.2
    | 2, _ =>
      obtain ⟨⟨p2, x⟩, hd⟩ : ∃ T, mDg (mS S) 2 p1 0 = T := ⟨_, rfl⟩
      have hx := hd3 2 (by decide)
      have hp2 := mDg_len 2 p1 0 hp1
      rw [hd] at hx hp2
      have hk1 : mDg (mS S) (mK1 2) p1 0 = (p2, x) := hd
      by_cases h0 : p2 = p1
      · have hC : mCm (mS S) h = (2, x, 0, p2, 1, nf) := by
          unfold mCm; rw [hr]; dsimp only
          rw [if_pos rfl, if_neg (by decide), hk1, if_pos (Or.inr h0), if_pos h0]
        rw [mCmE_of hC, if_neg (fun hc => absurd hc.1 (by decide))]
        exact c2a_X6_command hl hm htx hW hdo hh hr hp1 hd hx hp2 h0
      · obtain ⟨⟨y, p, wr⟩, hb⟩ : ∃ T, mBh (mS S) 2 p2 = T := ⟨_, rfl⟩
        have hb4 := hb3 2 p2 (by decide) hp2
        rw [hb] at hb4
        have hk2 : mBh (mS S) (mK2 2) p2 = (y, p, wr) := hb
        have hC : mCm (mS S) h = (2, x, y, p, wr, nf) := by
          unfold mCm; rw [hr]; dsimp only
          rw [if_pos rfl, if_neg (by decide), hk1, if_neg (by rintro (hc | hc); exact absurd hc (by decide); exact h0 hc), hk2]
        rw [mCmE_of hC]
        exact c2b_X6_command hl hm htx hW hdo hh hr hp1 hd hx hp2 h0 hb hb4.1 hb4.2
    | 3, _ =>
      obtain ⟨⟨p2, x⟩, hd⟩ : ∃ T, mDg (mS S) 2 p1 0 = T := ⟨_, rfl⟩
      have hx := hd3 2 (by decide)
      have hp2 := mDg_len 2 p1 0 hp1
      rw [hd] at hx hp2
      have hk1 : mDg (mS S) (mK1 3) p1 0 = (p2, x) := hd
      by_cases h0 : p2 = p1
      · have hC : mCm (mS S) h = (3, x, 0, p2, 1, nf) := by
          unfold mCm; rw [hr]; dsimp only
          rw [if_pos rfl, if_neg (by decide), hk1, if_pos (Or.inr h0), if_pos h0]
        rw [mCmE_of hC, if_neg (fun hc => absurd hc.1 (by decide))]
        exact c3a_X6_command hl hm htx hW hdo hh hr hp1 hd hx hp2 h0
      · obtain ⟨⟨y, p, wr⟩, hb⟩ : ∃ T, mBh (mS S) 1 p2 = T := ⟨_, rfl⟩
        have hb4 := hb3 1 p2 (by decide) hp2
        rw [hb] at hb4
        have hk2 : mBh (mS S) (mK2 3) p2 = (y, p, wr) := hb
        have hC : mCm (mS S) h = (3, x, y, p, wr, nf) := by
          unfold mCm; rw [hr]; dsimp only
          rw [if_pos rfl, if_neg (by decide), hk1, if_neg (by rintro (hc | hc); exact absurd hc (by decide); exact h0 hc), hk2]
        rw [mCmE_of hC]
        exact c3b_X6_command hl hm htx hW hdo hh hr hp1 hd hx hp2 h0 hb hb4.1 hb4.2
    | 4, _ =>
      obtain ⟨⟨p2, x⟩, hd⟩ : ∃ T, mDg (mS S) 1 p1 0 = T := ⟨_, rfl⟩
      have hx := hd3 1 (by decide)
      have hp2 := mDg_len 1 p1 0 hp1
      rw [hd] at hx hp2
      have hk1 : mDg (mS S) (mK1 4) p1 0 = (p2, x) := hd
      by_cases h0 : p2 = p1
      · have hC : mCm (mS S) h = (4, x, 0, p2, 1, nf) := by
          unfold mCm; rw [hr]; dsimp only
          rw [if_pos rfl, if_neg (by decide), hk1, if_pos (Or.inr h0), if_pos h0]
        rw [mCmE_of hC, if_neg (fun hc => absurd hc.1 (by decide))]
        exact c4a_X6_command hl hm htx hW hdo hh hr hp1 hd hx hp2 h0
      · obtain ⟨⟨y, p, wr⟩, hb⟩ : ∃ T, mBh (mS S) 2 p2 = T := ⟨_, rfl⟩
        have hb4 := hb3 2 p2 (by decide) hp2
        rw [hb] at hb4
        have hk2 : mBh (mS S) (mK2 4) p2 = (y, p, wr) := hb
        have hC : mCm (mS S) h = (4, x, y, p, wr, nf) := by
          unfold mCm; rw [hr]; dsimp only
          rw [if_pos rfl, if_neg (by decide), hk1, if_neg (by rintro (hc | hc); exact absurd hc (by decide); exact h0 hc), hk2]
        rw [mCmE_of hC]
        exact c4b_X6_command hl hm htx hW hdo hh hr hp1 hd hx hp2 h0 hb hb4.1 hb4.2
    | 5, _ =>
      obtain ⟨⟨p2, x⟩, hd⟩ : ∃ T, mDg (mS S) 1 p1 0 = T := ⟨_, rfl⟩
      have hx := hd3 1 (by decide)
      have hp2 := mDg_len 1 p1 0 hp1
      rw [hd] at hx hp2
      have hk1 : mDg (mS S) (mK1 5) p1 0 = (p2, x) := hd
      by_cases h0 : p2 = p1
      · have hC : mCm (mS S) h = (5, x, 0, p2, 1, nf) := by
          unfold mCm; rw [hr]; dsimp only
          rw [if_pos rfl, if_neg (by decide), hk1, if_pos (Or.inr h0), if_pos h0]
        rw [mCmE_of hC, if_neg (fun hc => absurd hc.1 (by decide))]
        exact c5a_X6_command hl hm htx hW hdo hh hr hp1 hd hx hp2 h0
      · have hC : mCm (mS S) h = (5, x, 0, p2, 0, nf) := by
          unfold mCm; rw [hr]; dsimp only
          rw [if_pos rfl, if_neg (by decide), hk1, if_pos (Or.inl rfl), if_neg h0]
        rw [mCmE_of hC]
        exact c5b_X6_command hl hm htx hW hdo hh hr hp1 hd hx hp2 h0
    | 6, _ =>
      obtain ⟨⟨p2, x⟩, hd⟩ : ∃ T, mDg (mS S) 1 p1 0 = T := ⟨_, rfl⟩
      have hx := hd3 1 (by decide)
      have hp2 := mDg_len 1 p1 0 hp1
      rw [hd] at hx hp2
      have hk1 : mDg (mS S) (mK1 6) p1 0 = (p2, x) := hd
      by_cases h0 : p2 = p1
      · have hC : mCm (mS S) h = (6, x, 0, p2, 1, nf) := by
          unfold mCm; rw [hr]; dsimp only
          rw [if_pos rfl, if_neg (by decide), hk1, if_pos (Or.inr h0), if_pos h0]
        rw [mCmE_of hC, if_neg (fun hc => absurd hc.1 (by decide))]
        exact c6a_X6_command hl hm htx hW hdo hh hr hp1 hd hx hp2 h0
      · obtain ⟨⟨y, p, wr⟩, hb⟩ : ∃ T, mBh (mS S) 1 p2 = T := ⟨_, rfl⟩
        have hb4 := hb3 1 p2 (by decide) hp2
        rw [hb] at hb4
        have hk2 : mBh (mS S) (mK2 6) p2 = (y, p, wr) := hb
        have hC : mCm (mS S) h = (6, x, y, p, wr, nf) := by
          unfold mCm; rw [hr]; dsimp only
          rw [if_pos rfl, if_neg (by decide), hk1, if_neg (by rintro (hc | hc); exact absurd hc (by decide); exact h0 hc), hk2]
        rw [mCmE_of hC]
        exact c6b_X6_command hl hm htx hW hdo hh hr hp1 hd hx hp2 h0 hb hb4.1 hb4.2
    | 7, _ =>
      obtain ⟨⟨p2, x⟩, hd⟩ : ∃ T, mDg (mS S) 2 p1 0 = T := ⟨_, rfl⟩
      have hx := hd3 2 (by decide)
      have hp2 := mDg_len 2 p1 0 hp1
      rw [hd] at hx hp2
      have hk1 : mDg (mS S) (mK1 7) p1 0 = (p2, x) := hd
      by_cases h0 : p2 = p1
      · have hC : mCm (mS S) h = (7, x, 0, p2, 1, nf) := by
          unfold mCm; rw [hr]; dsimp only
          rw [if_pos rfl, if_neg (by decide), hk1, if_pos (Or.inr h0), if_pos h0]
        rw [mCmE_of hC, if_neg (fun hc => absurd hc.1 (by decide))]
        exact c7a_X6_command hl hm htx hW hdo hh hr hp1 hd hx hp2 h0
      · obtain ⟨⟨y, p, wr⟩, hb⟩ : ∃ T, mBh (mS S) 1 p2 = T := ⟨_, rfl⟩
        have hb4 := hb3 1 p2 (by decide) hp2
        rw [hb] at hb4
        have hk2 : mBh (mS S) (mK2 7) p2 = (y, p, wr) := hb
        have hC : mCm (mS S) h = (7, x, y, p, wr, nf) := by
          unfold mCm; rw [hr]; dsimp only
          rw [if_pos rfl, if_neg (by decide), hk1, if_neg (by rintro (hc | hc); exact absurd hc (by decide); exact h0 hc), hk2]
        rw [mCmE_of hC]
        exact c7b_X6_command hl hm htx hW hdo hh hr hp1 hd hx hp2 h0 hb hb4.1 hb4.2
    | 8, _ =>
      by_cases h32 : mS S p1 = 32
      · obtain ⟨⟨y, p, wr⟩, hb⟩ : ∃ T, mBh (mS S) 2 p1 = T := ⟨_, rfl⟩
        have hb4 := hb3 2 p1 (by decide) hp1
        rw [hb] at hb4
        have hC : mCm (mS S) h = (8, y, 0, p, wr, nf) := by
          unfold mCm; rw [hr]; dsimp only
          rw [if_pos rfl, if_pos rfl, if_pos h32, hb]
        rw [mCmE_of hC]
        exact c8a_X6_command hl hm htx hW hdo hh hr hp1 h32 hb hb4.1 hb4.2
      · have hC : mCm (mS S) h = (8, 1, 0, p1, 0, nf) := by
          unfold mCm; rw [hr]; dsimp only
          rw [if_pos rfl, if_pos rfl, if_neg h32]
        rw [mCmE_of hC]
        exact c8b_X6_command hl hm htx hW hdo hh hr hp1 h32
  · have hC : mCm (mS S) h = (w, 1, 0, p1, 1, nf) := by
      unfold mCm; rw [hr]; dsimp only
      rw [if_neg (by omega)]
    rw [mCmE_of hC, if_neg (fun hc => absurd hc.1 (by decide))]
    subst hwr
    exact cw_X6_command hl hm htx hW hdo hh hr (by decide) (by decide)
