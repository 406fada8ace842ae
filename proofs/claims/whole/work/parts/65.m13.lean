/-! what the model's commands keep -/
theorem mNow.put {S : zS} {n t k v : Nat} (h : mNow S n t) (hk : 2 ≤ k) (hh : 5 ≤ k → k < 17 → v < 4) (hd : 17 ≤ k → k < 29 → v ≤ 9) (hl : 29 ≤ k → k < 41 → v < 4096) (hr : ∀ r, r < 4 → (k = 41 + 5 * r + 0 → v ≤ 9) ∧ (k = 41 + 5 * r + 1 → v ≤ 1) ∧ (k = 41 + 5 * r + 3 → v < 4096) ∧ (k = 41 + 5 * r + 4 → v < 4096)) : mNow (zU S 13 k v) n t := by
  obtain ⟨hn, hz, ht, ht4, hls, hrs⟩ := h
  have at' : ∀ b, zU S 13 k v 13 b = if b = k then v else S 13 b := fun b => by unfold zU; by_cases h : b = k <;> simp [h]
  refine ⟨(zU_j (by omega)).trans hn, hz, (zU_j (by omega)).trans ht, ht4, fun e he => ?_, fun r hrr => ?_⟩
  · obtain ⟨a1, a2, a3⟩ := hls e he
    rw [at', at', at']
    refine ⟨?_, ?_, ?_⟩ <;> (split <;> first | assumption | (apply_assumption; omega; omega) | omega)
  · obtain ⟨a1, a2, a3, a4⟩ := hrs r hrr
    obtain ⟨b1, b2, b3, b4⟩ := hr r hrr
    rw [at', at', at', at']
    refine ⟨?_, ?_, ?_, ?_⟩ <;> (split <;> first | assumption | (rename_i hc; first | exact b1 hc.symm | exact b2 hc.symm | exact b3 hc.symm | exact b4 hc.symm))
theorem mNow.n1 {S : zS} {n t : Nat} (h : mNow S n t) (hn : n < 12) : mNow (zU S 13 0 (n + 1)) (n + 1) t := by
  obtain ⟨h0, hz, ht, ht4, hls, hrs⟩ := h
  refine ⟨zU_s, hn, (zU_j (by decide)).trans ht, ht4, fun e he => ?_, fun r hr => ?_⟩
  · rw [zU_j (by omega), zU_j (by omega), zU_j (by omega)]; exact hls e he
  · rw [zU_j (by omega), zU_j (by omega), zU_j (by omega), zU_j (by omega)]; exact hrs r hr
theorem mNow.t1 {S : zS} {n t : Nat} (h : mNow S n t) (ht1 : t < 4) : mNow (zU S 13 1 (t + 1)) n (t + 1) := by
  obtain ⟨h0, hz, ht, ht4, hls, hrs⟩ := h
  refine ⟨(zU_j (by decide)).trans h0, hz, zU_s, ht1, fun e he => ?_, fun r hr => ?_⟩
  · rw [zU_j (by omega), zU_j (by omega), zU_j (by omega)]; exact hls e he
  · rw [zU_j (by omega), zU_j (by omega), zU_j (by omega), zU_j (by omega)]; exact hrs r hr
theorem mNow.fl {S : zS} {n t k : Nat} (h : mNow S n t) : mNow (mFl S k).2 n t := mNow_row (fun b _ => show zU S 12 0 k 13 b = S 13 b from zU_o (by decide)) h
def mNw (S : zS) : Prop := mNow S (S 13 0) (S 13 1)
theorem mNow.nw {S : zS} {n t : Nat} (h : mNow S n t) : mNw S := by
  have h0 := h.1
  have h1 := h.2.2.1
  unfold mNw
  rw [h0, h1]; exact h
theorem mDoes_nw {S : zS} {n t w x y : Nat} (h : mNow S n t) : mNw (mDoes S n t w x y).2 := by
  obtain ⟨hn, hz, ht, ht4, hls, hrs⟩ := id h
  unfold mDoes
  split
  · unfold mAdds
    split
    · split
      · exact h.fl.nw
      · exact (mNow.n1 ((h.put (by omega) (by omega) (by omega) (by omega) (fun r _ => by omega)).put (by omega) (by omega) (by omega) (by omega) (fun r _ => by omega)) (by omega)).nw
    · exact h.fl.nw
  · unfold mJoins
    split
    · split
      · exact h.fl.nw
      · split
        · exact h.fl.nw
        · have hl := mTurn_lt (S := S) (x := x) (y := y) (fun e he => (hls e he).2.2) (by omega) (by omega)
          have h1 : zU S 13 (29 + x) (S 13 (29 + x) ^^^ 1 * 2 ^ y) 13 (29 + x) < 4096 := by rw [zU_s]; exact zXor_lt (hls x (by omega)).2.2 (by omega)
          exact ((h.put (by omega) (by omega) (by omega) (fun _ _ => zXor_lt (hls x (by omega)).2.2 (by omega)) (fun r _ => by omega)).put (by omega) (by omega) (by omega) (fun _ _ => by have := hl y (by omega); unfold mTurn at this; rw [zU_s] at this; exact this) (fun r _ => by omega)).nw
    · exact h.fl.nw
  · unfold mCuts
    split
    · split
      · have hl := mTurn_lt (S := S) (x := x) (y := y) (fun e he => (hls e he).2.2) (by omega) (by omega)
        exact ((h.put (by omega) (by omega) (by omega) (fun _ _ => zXor_lt (hls x (by omega)).2.2 (by omega)) (fun r _ => by omega)).put (by omega) (by omega) (by omega) (fun _ _ => by have := hl y (by omega); unfold mTurn at this; rw [zU_s] at this; exact this) (fun r _ => by omega)).nw
      · exact h.fl.nw
    · exact h.fl.nw
  · unfold mStarts
    split
    · split
      · split
        · exact h.fl.nw
        · have hb : 1 * 2 ^ x < 4096 := zBit_lt (by omega)
          exact (mNow.t1 ((((((h.put (by omega) (by omega) (by omega) (by omega) (fun r _ => by omega)).put (by omega) (by omega) (by omega) (by omega) (fun r _ => by omega)).put (by omega) (by omega) (by omega) (by omega) (fun r _ => by omega)).put (by omega) (by omega) (by omega) (by omega) (fun r _ => by omega)).put (by omega) (by omega) (by omega) (by omega) (fun r _ => by omega)).put (by omega) (by omega) (by omega) (by omega) (fun r _ => by omega)) (by omega)).nw
      · exact h.fl.nw
    · exact h.fl.nw
  · unfold mChecks
    split
    · split
      · split
        · exact h.nw
        · obtain ⟨r0, r1, r3, r4⟩ := hrs x (by omega)
          have hb : 1 * 2 ^ y < 4096 := zBit_lt (by omega)
          have h3 := zXor_lt (i := y) r3 (by omega)
          have hA := h.put (k := 41 + 5 * x + 3) (v := S 13 (41 + 5 * x + 3) ^^^ 1 * 2 ^ y) (by omega) (by omega) (by omega) (by omega) (fun r _ => by omega)
          have h4 := (hA.2.2.2.2.2 x (by omega)).2.2.2
          have h5 := zOr_lt h4 hb
          have hB := hA.put (k := 41 + 5 * x + 4) (by omega) (by omega) (by omega) (by omega) (fun r _ => ⟨by omega, by omega, by omega, fun _ => h5⟩)
          exact (hB.put (k := 4) (by omega) (by omega) (by omega) (by omega) (fun r _ => by omega)).nw
      · exact h.fl.nw
    · exact h.fl.nw
  · unfold mDenies
    split
    · split
      · exact h.fl.nw
      · exact (h.put (by omega) (by omega) (by omega) (by omega) (fun r _ => by omega)).nw
    · exact h.fl.nw
  · unfold mAnswers
    split
    · split
      · split
        · exact h.fl.nw
        · exact ((h.put (by omega) (by omega) (by omega) (by omega) (fun r _ => by omega)).put (by omega) (by omega) (by omega) (by omega) (fun r _ => by omega)).nw
      · exact h.fl.nw
    · exact h.fl.nw
  · unfold mMoves
    split
    · split
      · split
        · exact h.fl.nw
        · exact (h.put (by omega) (by omega) (by omega) (by omega) (fun r _ => by omega)).nw
      · exact h.fl.nw
    · exact h.fl.nw
  · unfold mPasses
    split
    · exact (mRds_now h).nw
    · exact h.fl.nw
theorem mDoes_o {S : zS} {n t w x y a b : Nat} (ha : a ≠ 13) (hb : a ≠ 12 ∨ b ≠ 0) : (mDoes S n t w x y).2 a b = S a b := by
  have hf : ∀ k, (mFl S k).2 a b = S a b := fun k => by
    show zU S 12 0 k a b = S a b
    rcases hb with hb | hb
    · exact zU_o hb
    · exact zU_j hb
  unfold mDoes
  split
  · unfold mAdds; (repeat' split) <;> first | exact hf _ | (simp only [zU_o ha])
  · unfold mJoins mTurn; (repeat' split) <;> first | exact hf _ | (simp only [zU_o ha])
  · unfold mCuts mTurn; (repeat' split) <;> first | exact hf _ | (simp only [zU_o ha])
  · unfold mStarts; (repeat' split) <;> first | exact hf _ | (simp only [zU_o ha])
  · unfold mChecks mChk; (repeat' split) <;> first | exact hf _ | (simp only [zU_o ha])
  · unfold mDenies; (repeat' split) <;> first | exact hf _ | (simp only [zU_o ha])
  · unfold mAnswers; (repeat' split) <;> first | exact hf _ | (simp only [zU_o ha])
  · unfold mMoves; (repeat' split) <;> first | exact hf _ | (simp only [zU_o ha])
  · unfold mPasses; split
    · exact mRds_o ha
    · exact hf _
/-- a refusal of the model: its number, by the state before -/
theorem mDoes_12 {S : zS} {n t w x y : Nat} (h : S 12 0 ≤ 3) : (mDoes S n t w x y).2 12 0 ≤ 3 := by
  have hf : ∀ k, k ≤ 3 → (mFl S k).2 12 0 ≤ 3 := fun k hk => by show zU S 12 0 k 12 0 ≤ 3; rw [zU_s]; exact hk
  have ho : ∀ (Q : zS) k v, zU Q 13 k v 12 0 = Q 12 0 := fun Q k v => zU_o (by decide)
  unfold mDoes
  split
  · unfold mAdds; (repeat' split) <;> first | exact hf _ (by decide) | (simp only [ho]; exact h)
  · unfold mJoins mTurn; (repeat' split) <;> first | exact hf _ (by decide) | (simp only [ho]; exact h)
  · unfold mCuts mTurn; (repeat' split) <;> first | exact hf _ (by decide) | (simp only [ho]; exact h)
  · unfold mStarts; (repeat' split) <;> first | exact hf _ (by decide) | (simp only [ho]; exact h)
  · unfold mChecks mChk; (repeat' split) <;> first | exact hf _ (by decide) | (simp only [ho]; exact h)
  · unfold mDenies; (repeat' split) <;> first | exact hf _ (by decide) | (simp only [ho]; exact h)
  · unfold mAnswers; (repeat' split) <;> first | exact hf _ (by decide) | (simp only [ho]; exact h)
  · unfold mMoves; (repeat' split) <;> first | exact hf _ (by decide) | (simp only [ho]; exact h)
  · unfold mPasses; split
    · rw [mRds_o (by decide)]; exact h
    · exact hf _ (by decide)
def mChg (S : zS) (n t w x y : Nat) : Nat × zS := mEnd (mDoes (mBeg S) n t w x y).2 (mDoes (mBeg S) n t w x y).1
theorem mBeg_12 {S : zS} : mBeg S 12 0 = 0 := by unfold mBeg; rw [zCp_o (by decide), zU_s]
theorem mBeg_o {S : zS} {a b : Nat} (h : a ≠ 14) (h2 : a ≠ 12 ∨ b ≠ 0) : mBeg S a b = S a b := by
  unfold mBeg; rw [zCp_o h]
  rcases h2 with h2 | h2
  · exact zU_o h2
  · exact zU_j h2

set_option maxRecDepth 100000 in
set_option maxHeartbeats 4000000 in
theorem c_X6_addListener {l : Launch} (hl : l.stackTraces = false) {G : zG} {S : zS} {J : Int64} {E : UInt64} {n t : Nat} (hm : mNow S n t) (hc8 : S 12 1 ≤ 8) {x y : Nat} (hx : x < 2 ^ 32) (hy : y < 2 ^ 32) : nCR l G mX6_addListener 9 0 0 [.ref 12, zi x, zi y] S J E (some (zi (mChg S n t 0 x y).1)) (mChg S n t 0 x y).2 J E := by
  refine nCR.of hl (by decide) rfl (Nat.le_of_ble_eq_true rfl) (ls := [some (.ref 12), some (zi x), some (zi y)]) rfl (fun X C hF hX => ?_)
  subst hX
  obtain ⟨hn, hz, ht, ht4, hls, hrs⟩ := id hm
  have hmB : mNow (mBeg S) n t := mNow_row (fun b _ => mBeg_o (by decide) (Or.inl (by decide))) hm
  obtain ⟨hnB, -, htB, -, hlsB, hrsB⟩ := id hmB
  refine sw_aload_0 C dX6_addListener_0 ?_
  refine sn_cV0v C vX6_begins lX6_76 rfl (by decide) rfl rfl dX6_addListener_1 (Nat.le_of_ble_eq_true rfl) (c_X6_begins hl) (by decide) (by decide) (by decide) ?_
  refine sw_aload_0 C dX6_addListener_4 ?_
  refine sw_aload_0 C dX6_addListener_5 ?_
  refine sw_iload_1 C dX6_addListener_6 ?_
  refine sw_iload_2 C dX6_addListener_7 ?_
  refine sn_cV2r C vX6_adds lX6_79 rfl (by decide) rfl rfl dX6_addListener_8 (Nat.le_of_ble_eq_true rfl) (c_X6_adds hl hnB hz hx hy) (by decide) (by decide) (by decide) ?_
  refine sn_cV1r C vX6_ends lX6_82 rfl (by decide) rfl rfl dX6_addListener_11 (Nat.le_of_ble_eq_true rfl) (c_X6_ends hl (S := (mDoes (mBeg S) n t 0 x y).2) (by have := mDoes_12 (S := mBeg S) (n := n) (t := t) (w := 0) (x := x) (y := y) (by rw [mBeg_12]; decide); omega) (by rw [mDoes_o (by decide) (Or.inr (by decide)), mBeg_o (by decide) (Or.inr (by decide))]; exact hc8)) (by decide) (by decide) (by decide) ?_
  exact sn_iret C rfl hF dX6_addListener_14 (by decide) (by decide) (by rfl) rfl rfl rfl

set_option maxRecDepth 100000 in
set_option maxHeartbeats 4000000 in
theorem c_X6_link {l : Launch} (hl : l.stackTraces = false) {G : zG} {S : zS} {J : Int64} {E : UInt64} {n t : Nat} (hm : mNow S n t) (hc8 : S 12 1 ≤ 8) {x y : Nat} (hx : x < 2 ^ 32) (hy : y < 2 ^ 32) : nCR l G mX6_link 9 0 0 [.ref 12, zi x, zi y] S J E (some (zi (mChg S n t 1 x y).1)) (mChg S n t 1 x y).2 J E := by
  refine nCR.of hl (by decide) rfl (Nat.le_of_ble_eq_true rfl) (ls := [some (.ref 12), some (zi x), some (zi y)]) rfl (fun X C hF hX => ?_)
  subst hX
  obtain ⟨hn, hz, ht, ht4, hls, hrs⟩ := id hm
  have hmB : mNow (mBeg S) n t := mNow_row (fun b _ => mBeg_o (by decide) (Or.inl (by decide))) hm
  obtain ⟨hnB, -, htB, -, hlsB, hrsB⟩ := id hmB
  refine sw_aload_0 C dX6_link_0 ?_
  refine sn_cV0v C vX6_begins lX6_76 rfl (by decide) rfl rfl dX6_link_1 (Nat.le_of_ble_eq_true rfl) (c_X6_begins hl) (by decide) (by decide) (by decide) ?_
  refine sw_aload_0 C dX6_link_4 ?_
  refine sw_aload_0 C dX6_link_5 ?_
  refine sw_iload_1 C dX6_link_6 ?_
  refine sw_iload_2 C dX6_link_7 ?_
  refine sn_cV2r C vX6_joins lX6_103 rfl (by decide) rfl rfl dX6_link_8 (Nat.le_of_ble_eq_true rfl) (c_X6_joins hl hnB hz (fun e he => (hlsB e he).2.2) hx hy) (by decide) (by decide) (by decide) ?_
  refine sn_cV1r C vX6_ends lX6_82 rfl (by decide) rfl rfl dX6_link_11 (Nat.le_of_ble_eq_true rfl) (c_X6_ends hl (S := (mDoes (mBeg S) n t 1 x y).2) (by have := mDoes_12 (S := mBeg S) (n := n) (t := t) (w := 1) (x := x) (y := y) (by rw [mBeg_12]; decide); omega) (by rw [mDoes_o (by decide) (Or.inr (by decide)), mBeg_o (by decide) (Or.inr (by decide))]; exact hc8)) (by decide) (by decide) (by decide) ?_
  exact sn_iret C rfl hF dX6_link_14 (by decide) (by decide) (by rfl) rfl rfl rfl

set_option maxRecDepth 100000 in
set_option maxHeartbeats 4000000 in
theorem c_X6_unlink {l : Launch} (hl : l.stackTraces = false) {G : zG} {S : zS} {J : Int64} {E : UInt64} {n t : Nat} (hm : mNow S n t) (hc8 : S 12 1 ≤ 8) {x y : Nat} (hx : x < 2 ^ 32) (hy : y < 2 ^ 32) : nCR l G mX6_unlink 9 0 0 [.ref 12, zi x, zi y] S J E (some (zi (mChg S n t 2 x y).1)) (mChg S n t 2 x y).2 J E := by
  refine nCR.of hl (by decide) rfl (Nat.le_of_ble_eq_true rfl) (ls := [some (.ref 12), some (zi x), some (zi y)]) rfl (fun X C hF hX => ?_)
  subst hX
  obtain ⟨hn, hz, ht, ht4, hls, hrs⟩ := id hm
  have hmB : mNow (mBeg S) n t := mNow_row (fun b _ => mBeg_o (by decide) (Or.inl (by decide))) hm
  obtain ⟨hnB, -, htB, -, hlsB, hrsB⟩ := id hmB
  refine sw_aload_0 C dX6_unlink_0 ?_
  refine sn_cV0v C vX6_begins lX6_76 rfl (by decide) rfl rfl dX6_unlink_1 (Nat.le_of_ble_eq_true rfl) (c_X6_begins hl) (by decide) (by decide) (by decide) ?_
  refine sw_aload_0 C dX6_unlink_4 ?_
  refine sw_aload_0 C dX6_unlink_5 ?_
  refine sw_iload_1 C dX6_unlink_6 ?_
  refine sw_iload_2 C dX6_unlink_7 ?_
  refine sn_cV2r C vX6_cuts lX6_106 rfl (by decide) rfl rfl dX6_unlink_8 (Nat.le_of_ble_eq_true rfl) (c_X6_cuts hl hnB hz (fun e he => (hlsB e he).2.2) hx hy) (by decide) (by decide) (by decide) ?_
  refine sn_cV1r C vX6_ends lX6_82 rfl (by decide) rfl rfl dX6_unlink_11 (Nat.le_of_ble_eq_true rfl) (c_X6_ends hl (S := (mDoes (mBeg S) n t 2 x y).2) (by have := mDoes_12 (S := mBeg S) (n := n) (t := t) (w := 2) (x := x) (y := y) (by rw [mBeg_12]; decide); omega) (by rw [mDoes_o (by decide) (Or.inr (by decide)), mBeg_o (by decide) (Or.inr (by decide))]; exact hc8)) (by decide) (by decide) (by decide) ?_
  exact sn_iret C rfl hF dX6_unlink_14 (by decide) (by decide) (by rfl) rfl rfl rfl

set_option maxRecDepth 100000 in
set_option maxHeartbeats 4000000 in
theorem c_X6_moveListener {l : Launch} (hl : l.stackTraces = false) {G : zG} {S : zS} {J : Int64} {E : UInt64} {n t : Nat} (hm : mNow S n t) (hc8 : S 12 1 ≤ 8) {x y : Nat} (hx : x < 2 ^ 32) (hy : y < 2 ^ 32) : nCR l G mX6_moveListener 9 0 0 [.ref 12, zi x, zi y] S J E (some (zi (mChg S n t 7 x y).1)) (mChg S n t 7 x y).2 J E := by
  refine nCR.of hl (by decide) rfl (Nat.le_of_ble_eq_true rfl) (ls := [some (.ref 12), some (zi x), some (zi y)]) rfl (fun X C hF hX => ?_)
  subst hX
  obtain ⟨hn, hz, ht, ht4, hls, hrs⟩ := id hm
  have hmB : mNow (mBeg S) n t := mNow_row (fun b _ => mBeg_o (by decide) (Or.inl (by decide))) hm
  obtain ⟨hnB, -, htB, -, hlsB, hrsB⟩ := id hmB
  refine sw_aload_0 C dX6_moveListener_0 ?_
  refine sn_cV0v C vX6_begins lX6_76 rfl (by decide) rfl rfl dX6_moveListener_1 (Nat.le_of_ble_eq_true rfl) (c_X6_begins hl) (by decide) (by decide) (by decide) ?_
  refine sw_aload_0 C dX6_moveListener_4 ?_
  refine sw_aload_0 C dX6_moveListener_5 ?_
  refine sw_iload_1 C dX6_moveListener_6 ?_
  refine sw_iload_2 C dX6_moveListener_7 ?_
  refine sn_cV2r C vX6_moves lX6_109 rfl (by decide) rfl rfl dX6_moveListener_8 (Nat.le_of_ble_eq_true rfl) (c_X6_moves hl hmB hx hy) (by decide) (by decide) (by decide) ?_
  refine sn_cV1r C vX6_ends lX6_82 rfl (by decide) rfl rfl dX6_moveListener_11 (Nat.le_of_ble_eq_true rfl) (c_X6_ends hl (S := (mDoes (mBeg S) n t 7 x y).2) (by have := mDoes_12 (S := mBeg S) (n := n) (t := t) (w := 7) (x := x) (y := y) (by rw [mBeg_12]; decide); omega) (by rw [mDoes_o (by decide) (Or.inr (by decide)), mBeg_o (by decide) (Or.inr (by decide))]; exact hc8)) (by decide) (by decide) (by decide) ?_
  exact sn_iret C rfl hF dX6_moveListener_14 (by decide) (by decide) (by rfl) rfl rfl rfl

set_option maxRecDepth 100000 in
set_option maxHeartbeats 4000000 in
theorem c_X6_startRumour {l : Launch} (hl : l.stackTraces = false) {G : zG} {S : zS} {J : Int64} {E : UInt64} {n t : Nat} (hm : mNow S n t) (hc8 : S 12 1 ≤ 8) {x y : Nat} (hx : x < 2 ^ 32) (hy : y < 2 ^ 32) : nCR l G mX6_startRumour 9 0 0 [.ref 12, zi x, zi y] S J E (some (zi (mChg S n t 3 x y).1)) (mChg S n t 3 x y).2 J E := by
  refine nCR.of hl (by decide) rfl (Nat.le_of_ble_eq_true rfl) (ls := [some (.ref 12), some (zi x), some (zi y)]) rfl (fun X C hF hX => ?_)
  subst hX
  obtain ⟨hn, hz, ht, ht4, hls, hrs⟩ := id hm
  have hmB : mNow (mBeg S) n t := mNow_row (fun b _ => mBeg_o (by decide) (Or.inl (by decide))) hm
  obtain ⟨hnB, -, htB, -, hlsB, hrsB⟩ := id hmB
  refine sw_aload_0 C dX6_startRumour_0 ?_
  refine sn_cV0v C vX6_begins lX6_76 rfl (by decide) rfl rfl dX6_startRumour_1 (Nat.le_of_ble_eq_true rfl) (c_X6_begins hl) (by decide) (by decide) (by decide) ?_
  refine sw_aload_0 C dX6_startRumour_4 ?_
  refine sw_aload_0 C dX6_startRumour_5 ?_
  refine sw_iload_1 C dX6_startRumour_6 ?_
  refine sw_iload_2 C dX6_startRumour_7 ?_
  refine sn_cV2r C vX6_starts lX6_112 rfl (by decide) rfl rfl dX6_startRumour_8 (Nat.le_of_ble_eq_true rfl) (c_X6_starts hl hmB hx hy) (by decide) (by decide) (by decide) ?_
  refine sn_cV1r C vX6_ends lX6_82 rfl (by decide) rfl rfl dX6_startRumour_11 (Nat.le_of_ble_eq_true rfl) (c_X6_ends hl (S := (mDoes (mBeg S) n t 3 x y).2) (by have := mDoes_12 (S := mBeg S) (n := n) (t := t) (w := 3) (x := x) (y := y) (by rw [mBeg_12]; decide); omega) (by rw [mDoes_o (by decide) (Or.inr (by decide)), mBeg_o (by decide) (Or.inr (by decide))]; exact hc8)) (by decide) (by decide) (by decide) ?_
  exact sn_iret C rfl hF dX6_startRumour_14 (by decide) (by decide) (by rfl) rfl rfl rfl

set_option maxRecDepth 100000 in
set_option maxHeartbeats 4000000 in
theorem c_X6_answer {l : Launch} (hl : l.stackTraces = false) {G : zG} {S : zS} {J : Int64} {E : UInt64} {n t : Nat} (hm : mNow S n t) (hc8 : S 12 1 ≤ 8) {x y : Nat} (hx : x < 2 ^ 32) (hy : y < 2 ^ 32) : nCR l G mX6_answer 9 0 0 [.ref 12, zi x, zi y] S J E (some (zi (mChg S n t 6 x y).1)) (mChg S n t 6 x y).2 J E := by
  refine nCR.of hl (by decide) rfl (Nat.le_of_ble_eq_true rfl) (ls := [some (.ref 12), some (zi x), some (zi y)]) rfl (fun X C hF hX => ?_)
  subst hX
  obtain ⟨hn, hz, ht, ht4, hls, hrs⟩ := id hm
  have hmB : mNow (mBeg S) n t := mNow_row (fun b _ => mBeg_o (by decide) (Or.inl (by decide))) hm
  obtain ⟨hnB, -, htB, -, hlsB, hrsB⟩ := id hmB
  refine sw_aload_0 C dX6_answer_0 ?_
  refine sn_cV0v C vX6_begins lX6_76 rfl (by decide) rfl rfl dX6_answer_1 (Nat.le_of_ble_eq_true rfl) (c_X6_begins hl) (by decide) (by decide) (by decide) ?_
  refine sw_aload_0 C dX6_answer_4 ?_
  refine sw_aload_0 C dX6_answer_5 ?_
  refine sw_iload_1 C dX6_answer_6 ?_
  refine sw_iload_2 C dX6_answer_7 ?_
  refine sn_cV2r C vX6_answers lX6_124 rfl (by decide) rfl rfl dX6_answer_8 (Nat.le_of_ble_eq_true rfl) (c_X6_answers hl hmB hx hy) (by decide) (by decide) (by decide) ?_
  refine sn_cV1r C vX6_ends lX6_82 rfl (by decide) rfl rfl dX6_answer_11 (Nat.le_of_ble_eq_true rfl) (c_X6_ends hl (S := (mDoes (mBeg S) n t 6 x y).2) (by have := mDoes_12 (S := mBeg S) (n := n) (t := t) (w := 6) (x := x) (y := y) (by rw [mBeg_12]; decide); omega) (by rw [mDoes_o (by decide) (Or.inr (by decide)), mBeg_o (by decide) (Or.inr (by decide))]; exact hc8)) (by decide) (by decide) (by decide) ?_
  exact sn_iret C rfl hF dX6_answer_14 (by decide) (by decide) (by rfl) rfl rfl rfl

set_option maxRecDepth 100000 in
set_option maxHeartbeats 4000000 in
theorem c_X6_deny {l : Launch} (hl : l.stackTraces = false) {G : zG} {S : zS} {J : Int64} {E : UInt64} {n t : Nat} (hm : mNow S n t) (hc8 : S 12 1 ≤ 8) {x : Nat} (hx : x < 2 ^ 32) : nCR l G mX6_deny 9 0 0 [.ref 12, zi x] S J E (some (zi (mChg S n t 5 x 0).1)) (mChg S n t 5 x 0).2 J E := by
  refine nCR.of hl (by decide) rfl (Nat.le_of_ble_eq_true rfl) (ls := [some (.ref 12), some (zi x)]) rfl (fun X C hF hX => ?_)
  subst hX
  obtain ⟨hn, hz, ht, ht4, hls, hrs⟩ := id hm
  have hmB : mNow (mBeg S) n t := mNow_row (fun b _ => mBeg_o (by decide) (Or.inl (by decide))) hm
  obtain ⟨hnB, -, htB, -, hlsB, hrsB⟩ := id hmB
  refine sw_aload_0 C dX6_deny_0 ?_
  refine sn_cV0v C vX6_begins lX6_76 rfl (by decide) rfl rfl dX6_deny_1 (Nat.le_of_ble_eq_true rfl) (c_X6_begins hl) (by decide) (by decide) (by decide) ?_
  refine sw_aload_0 C dX6_deny_4 ?_
  refine sw_aload_0 C dX6_deny_5 ?_
  refine sw_iload_1 C dX6_deny_6 ?_
  refine sn_cV1r C vX6_denies lX6_121 rfl (by decide) rfl rfl dX6_deny_7 (Nat.le_of_ble_eq_true rfl) (c_X6_denies hl hmB hx) (by decide) (by decide) (by decide) ?_
  refine sn_cV1r C vX6_ends lX6_82 rfl (by decide) rfl rfl dX6_deny_10 (Nat.le_of_ble_eq_true rfl) (c_X6_ends hl (S := (mDoes (mBeg S) n t 5 x 0).2) (by have := mDoes_12 (S := mBeg S) (n := n) (t := t) (w := 5) (x := x) (y := 0) (by rw [mBeg_12]; decide); omega) (by rw [mDoes_o (by decide) (Or.inr (by decide)), mBeg_o (by decide) (Or.inr (by decide))]; exact hc8)) (by decide) (by decide) (by decide) ?_
  exact sn_iret C rfl hF dX6_deny_13 (by decide) (by decide) (by rfl) rfl rfl rfl

set_option maxRecDepth 100000 in
set_option maxHeartbeats 4000000 in
theorem c_X6_advance {l : Launch} (hl : l.stackTraces = false) {G : zG} {S : zS} {J : Int64} {E : UInt64} {n t : Nat} (hm : mNow S n t) (hc8 : S 12 1 ≤ 8) {x : Nat} (hx : x < 2 ^ 32) : nCR l G mX6_advance 9 0 0 [.ref 12, zi x] S J E (some (zi (mChg S n t 8 x 0).1)) (mChg S n t 8 x 0).2 J E := by
  refine nCR.of hl (by decide) rfl (Nat.le_of_ble_eq_true rfl) (ls := [some (.ref 12), some (zi x)]) rfl (fun X C hF hX => ?_)
  subst hX
  obtain ⟨hn, hz, ht, ht4, hls, hrs⟩ := id hm
  have hmB : mNow (mBeg S) n t := mNow_row (fun b _ => mBeg_o (by decide) (Or.inl (by decide))) hm
  obtain ⟨hnB, -, htB, -, hlsB, hrsB⟩ := id hmB
  refine sw_aload_0 C dX6_advance_0 ?_
  refine sn_cV0v C vX6_begins lX6_76 rfl (by decide) rfl rfl dX6_advance_1 (Nat.le_of_ble_eq_true rfl) (c_X6_begins hl) (by decide) (by decide) (by decide) ?_
  refine sw_aload_0 C dX6_advance_4 ?_
  refine sw_aload_0 C dX6_advance_5 ?_
  refine sw_iload_1 C dX6_advance_6 ?_
  refine sn_cV1r C vX6_passes lX6_142 rfl (by decide) rfl rfl dX6_advance_7 (Nat.le_of_ble_eq_true rfl) (c_X6_passes hl hmB hx) (by decide) (by decide) (by decide) ?_
  refine sn_cV1r C vX6_ends lX6_82 rfl (by decide) rfl rfl dX6_advance_10 (Nat.le_of_ble_eq_true rfl) (c_X6_ends hl (S := (mDoes (mBeg S) n t 8 x 0).2) (by have := mDoes_12 (S := mBeg S) (n := n) (t := t) (w := 8) (x := x) (y := 0) (by rw [mBeg_12]; decide); omega) (by rw [mDoes_o (by decide) (Or.inr (by decide)), mBeg_o (by decide) (Or.inr (by decide))]; exact hc8)) (by decide) (by decide) (by decide) ?_
  exact sn_iret C rfl hF dX6_advance_13 (by decide) (by decide) (by rfl) rfl rfl rfl

theorem mChk_b {S : zS} {n t x y : Nat} : (mChg S n t 4 x y).1 ≤ 1 := by
  unfold mChg mEnd
  split
  · show (mChecks (mBeg S) n t x y).1 ≤ 1
    unfold mChecks mFl
    (repeat' split) <;> simp
  · exact Nat.zero_le _

set_option maxRecDepth 100000 in
set_option maxHeartbeats 4000000 in
theorem c_X6_check {l : Launch} (hl : l.stackTraces = false) {G : zG} {S : zS} {J : Int64} {E : UInt64} {n t : Nat} (hm : mNow S n t) (hc8 : S 12 1 ≤ 8) {x y : Nat} (hx : x < 2 ^ 32) (hy : y < 2 ^ 32) : nCR l G mX6_check 9 0 0 [.ref 12, zi x, zi y] S J E (some (zi (decide ((mChg S n t 4 x y).1 = 1)).toNat)) (mChg S n t 4 x y).2 J E := by
  refine nCR.of hl (by decide) rfl (Nat.le_of_ble_eq_true rfl) (ls := [some (.ref 12), some (zi x), some (zi y)]) rfl (fun X C hF hX => ?_)
  subst hX
  obtain ⟨hn, hz, ht, ht4, hls, hrs⟩ := id hm
  have hmB : mNow (mBeg S) n t := mNow_row (fun b _ => mBeg_o (by decide) (Or.inl (by decide))) hm
  obtain ⟨hnB, -, htB, -, hlsB, hrsB⟩ := id hmB
  have hcb := mChk_b (S := S) (n := n) (t := t) (x := x) (y := y)
  refine sw_aload_0 C dX6_check_0 ?_
  refine sn_cV0v C vX6_begins lX6_76 rfl (by decide) rfl rfl dX6_check_1 (Nat.le_of_ble_eq_true rfl) (c_X6_begins hl) (by decide) (by decide) (by decide) ?_
  refine sw_aload_0 C dX6_check_4 ?_
  refine sw_aload_0 C dX6_check_5 ?_
  refine sw_iload_1 C dX6_check_6 ?_
  refine sw_iload_2 C dX6_check_7 ?_
  refine sn_cV2r C vX6_checks lX6_118 rfl (by decide) rfl rfl dX6_check_8 (Nat.le_of_ble_eq_true rfl) (c_X6_checks hl hmB hx hy) (by decide) (by decide) (by decide) ?_
  refine sn_cV1r C vX6_ends lX6_82 rfl (by decide) rfl rfl dX6_check_11 (Nat.le_of_ble_eq_true rfl) (c_X6_ends hl (S := (mDoes (mBeg S) n t 4 x y).2) (by have := mDoes_12 (S := mBeg S) (n := n) (t := t) (w := 4) (x := x) (y := y) (by rw [mBeg_12]; decide); omega) (by rw [mDoes_o (by decide) (Or.inr (by decide)), mBeg_o (by decide) (Or.inr (by decide))]; exact hc8)) (by decide) (by decide) (by decide) ?_
  refine sn_iconst C 1 (by decide) dX6_check_14 ?_
  refine sn_icmp_ne C 22 (show (mChg S n t 4 x y).1 < 2 ^ 32 by omega) (by decide) dX6_check_15 (by decide) (fun c15 => ?_) (fun c15 => ?_)
  · refine sn_iconst C 0 (by decide) dX6_check_22 ?_
    exact sn_zret C (v := false) rfl hF dX6_check_23 (by decide) (by decide) (by first | exact (decide_eq_true c15).symm | exact (decide_eq_false c15).symm) rfl rfl rfl
  · refine sn_iconst C 1 (by decide) dX6_check_18 ?_
    refine sw_goto C 23 dX6_check_19 (by decide) ?_
    exact sn_zret C (v := true) rfl hF dX6_check_23 (by decide) (by decide) (by first | exact (decide_eq_true c15).symm | exact (decide_eq_false c15).symm) rfl rfl rfl
