/-! one call, of both sides: the text, the past, the state put by, the changes, the means -/
section OR3
variable {l : Launch} {G : zG} {S : zS} {J : Int64} {E : UInt64}
set_option maxHeartbeats 2000000 in
theorem op_type (hl : l.stackTraces = false) (H : zInv S S) {x : Nat} (hx : x < 65536) : zOpW l G S J E mL_type hhL_type [.ref 0, zi x, .ref 23] mX6_type [.ref 12, zi x] := by
  have hm := H.1.mn
  obtain ⟨x1, x2, x3⟩ := H.2.2.2.2.2.2.1
  have h60 : S 12 15 ≤ 60 := x1 ▸ x2
  by_cases h1 : 32 ≤ x ∧ x ≤ 126
  · by_cases h2 : S 12 15 = 60
    · have c2 := c_X6_type hl (G := G) (J := J) (E := E) hm h60 (x := x) (by omega)
      rw [if_pos h1, if_pos h1, if_pos h2, if_pos h2] at c2
      exact zOpW.thr H (fun _ _ _ _ _ _ => rfl) (tL_type_2 hl (t2_X5_type hl hx h1 (by omega) x2)) c2 ⟨by decide, by decide⟩ rfl (by decide)
    · obtain ⟨S1, hS1⟩ : ∃ S1, zU (zU S 6 (S 5 1) x) 5 1 (S 5 1 + 1) = S1 := ⟨_, rfl⟩
      have ho : ∀ a b, a ≠ 5 → a ≠ 6 → S1 a b = S a b := fun a b h5 h6 => by rw [← hS1, zU_o h5, zU_o h6]
      have hm1 : mNow S1 (S 26 0) (S 25 4) := mNow_row (fun b _ => ho 13 b (by decide) (by decide)) hm
      have e15 : S1 12 15 = S 12 15 := ho _ _ (by decide) (by decide)
      have h5 : S 5 1 < 60 := by omega
      have c1 := rL_type hl (c_X5_type hl (S := S) (G := G) (J := J) (E := E) hx h1 h5)
      have c2 := c_X6_type hl (G := G) (J := (nI (S 5 1 + 1)).toInt64) (E := E) hm1 (by rw [e15]; exact h60) (x := x) (by omega)
      rw [hS1] at c1
      rw [if_pos h1, if_pos h1, e15, if_neg h2, if_neg h2] at c2
      obtain ⟨S2, hS2⟩ : ∃ S2, zU (zU (zU S1 12 0 0) 18 (S 12 15) x) 12 15 (S 12 15 + 1) = S2 := ⟨_, rfl⟩
      rw [hS2] at c2
      have so : ∀ a b, a ≠ 12 → a ≠ 18 → S2 a b = S1 a b := fun a b h12 h18 => by rw [← hS2, zU_o h12, zU_o h18, zU_o h12]
      have s12 : ∀ b, b ≠ 0 → b ≠ 15 → S2 12 b = S 12 b := fun b h0 h15 => by rw [← hS2, zU_j h15, zU_o (by decide), zU_j h0]; exact ho _ _ (by decide) (by decide)
      have sa : ∀ a b, a ≠ 5 → a ≠ 6 → a ≠ 12 → a ≠ 18 → S2 a b = S a b := fun a b h5 h6 h12 h18 => (so a b h12 h18).trans (ho a b h5 h6)
      refine ⟨0, _, _, _, 0, 0, S1, S2, _, ⟨by decide, by decide, by decide, by decide⟩, c1, c2, ?_, by decide, fun _ => by rw [x1], ?_⟩
      · rw [← hS2, zU_j (by decide), zU_o (by decide), zU_s]
      · obtain ⟨r1, r2, r3, r4⟩ := H.2.2.2.2.2.2.2.2
        refine ⟨H.1.same (fun a b h => sa a b (by omega) (by omega) (by omega) (by omega)) (fun a b h => ?_), H.2.put (sa 0 7 (by decide) (by decide) (by decide) (by decide)) (fun a b h => sa a b (by omega) (by omega) (by omega) (by omega)) (s12 4 (by decide) (by decide)) (s12 18 (by decide) (by decide)) (fun a b h => sa a b (by omega) (by omega) (by omega) (by omega)) ⟨?_, ?_, fun k hk => ?_⟩ ⟨?_, ?_, ?_, ?_⟩⟩
        · rcases h with ⟨rfl, rfl⟩ | ⟨rfl, hb⟩ | rfl
          · exact s12 1 (by decide) (by decide)
          · exact sa _ b (by decide) (by decide) (by decide) (by decide)
          · exact sa _ b (by decide) (by decide) (by decide) (by decide)
        · rw [so 5 1 (by decide) (by decide), ← hS2, ← hS1, zU_s, zU_s, x1]
        · rw [so 5 1 (by decide) (by decide), ← hS1, zU_s]; omega
        · have e6 : S2 6 k = if k = S 5 1 then x else S 6 k := by
            rw [so 6 k (by decide) (by decide), ← hS1, zU_o (by decide)]
            by_cases hk2 : k = S 5 1
            · rw [if_pos hk2, hk2, zU_s]
            · rw [if_neg hk2, zU_j hk2]
          have e18 : S2 18 k = if k = S 5 1 then x else S 18 k := by
            rw [← hS2, zU_o (by decide), ← x1]
            by_cases hk2 : k = S 5 1
            · rw [if_pos hk2, hk2, zU_s]
            · rw [if_neg hk2, zU_j hk2, zU_o (by decide)]; exact ho _ _ (by decide) (by decide)
          rw [e6, e18]
          by_cases hk2 : k = S 5 1
          · rw [if_pos hk2, if_pos hk2]; exact ⟨rfl, hx⟩
          · rw [if_neg hk2, if_neg hk2]; exact x3 k hk
        · rw [sa 0 8 (by decide) (by decide) (by decide) (by decide), s12 2 (by decide) (by decide)]; exact r1
        · rw [sa 0 9 (by decide) (by decide) (by decide) (by decide), s12 3 (by decide) (by decide)]; exact r2
        · rw [sa 0 8 (by decide) (by decide) (by decide) (by decide)]; exact r3
        · rw [sa 0 9 (by decide) (by decide) (by decide) (by decide)]; exact r4
  · have c2 := c_X6_type hl (G := G) (J := J) (E := E) hm h60 (x := x) (by omega)
    rw [if_neg h1, if_neg h1] at c2
    exact zOpW.thr H (fun _ _ _ _ _ _ => rfl) (tL_type_1 hl (t1_X5_type hl hx h1)) c2 ⟨by decide, by decide⟩ rfl (by decide)
theorem op_errorPosition (hl : l.stackTraces = false) (H : zInv S S) : zOpW l G S J E mL_errorPosition hhL_errorPosition [.ref 0, .ref 23] mX6_errorPosition [.ref 12] := by
  have hw := H.1.2.1.now
  have hm := H.1.mn
  obtain ⟨r1, r2, r3, r4⟩ := H.2.2.2.2.2.2.2.2
  by_cases h0 : S 0 8 = 4294967295
  · exact zOpW.thr H (fun _ _ _ _ _ _ => rfl) (tL_errorPosition_1 hl (t1_X5_errorPosition hl hw h0)) (c_X6_errorPosition hl hm (by omega)) ⟨by decide, by decide⟩ (if_neg (by omega)) (by decide)
  · exact zOpW.ret H (fun _ _ _ _ _ _ => rfl) (rL_errorPosition hl (c_X5_errorPosition hl hw (by omega) h0)) (c_X6_errorPosition hl hm (by omega)) ⟨by decide, by decide⟩ (if_pos (by omega)) (by rw [if_pos (by omega), r1])
theorem op_failedCommand (hl : l.stackTraces = false) (H : zInv S S) : zOpW l G S J E mL_failedCommand hhL_failedCommand [.ref 0, .ref 23] mX6_failedCommand [.ref 12] := by
  have hw := H.1.2.1.now
  have hm := H.1.mn
  obtain ⟨r1, r2, r3, r4⟩ := H.2.2.2.2.2.2.2.2
  by_cases h0 : S 0 9 = 4294967295
  · exact zOpW.thr H (fun _ _ _ _ _ _ => rfl) (tL_failedCommand_1 hl (t1_X5_failedCommand hl hw h0)) (c_X6_failedCommand hl hm (by omega)) ⟨by decide, by decide⟩ (if_neg (by omega)) (by decide)
  · exact zOpW.ret H (fun _ _ _ _ _ _ => rfl) (rL_failedCommand hl (c_X5_failedCommand hl hw (by omega) h0)) (c_X6_failedCommand hl hm (by omega)) ⟨by decide, by decide⟩ (if_pos (by omega)) (by rw [if_pos (by omega), r2])
set_option maxHeartbeats 2000000 in
theorem op_undo (hl : l.stackTraces = false) (H : zInv S S) : zOpW l G S J E mL_undo hhL_undo [.ref 0, .ref 23] mX6_undo [.ref 12] := by
  have hm := H.1.mn
  obtain ⟨T, Gd, Hh, Dd, Pp⟩ := id H.1
  have hh := Hh.hist
  by_cases h0 : S 1 1 = 0
  · exact zOpW.thr H (fun _ _ _ _ _ _ => rfl) (tL_undo_1 hl (t1_X5_undo hl h0)) (c1_X6_undo hl hm rfl (Hh.1.symm.trans h0)) ⟨by decide, by decide⟩ rfl (by decide)
  · obtain ⟨S1, hS1⟩ : ∃ S1, zBack S 25 = S1 := ⟨_, rfl⟩
    have ho : ∀ a b, a ≠ 1 → a < 25 ∨ 41 ≤ a → S1 a b = S a b := fun a b h1 h2 => by rw [← hS1]; unfold zBack; rw [zScCp_o (by omega), zU_o h1, zU_o h1]
    have Hh1 : zHt S S1 := Hh.same rfl rfl (fun _ _ _ => rfl) (ho _ _ (by decide) (by decide)) (fun k => ho _ _ (by decide) (by decide))
    have hm1 : mNow S1 (S 26 0) (S 25 4) := mNow_row (fun b _ => ho 13 b (by decide) (by decide)) hm
    obtain ⟨c, hc⟩ : ∃ c, S1 12 1 = c := ⟨_, rfl⟩
    have hc1 : S 1 1 = c := Hh1.1.trans hc
    have hc8 : c ≤ 8 := hc ▸ Hh1.2.1
    have hc0 : ¬ c = 0 := hc1 ▸ h0
    obtain ⟨u1, u2, u3, u4⟩ := tie_undo Hh1 hc hc0
    have c1 := rL_undo hl (c_X5_undo hl (G := G) (J := J) (E := E) hh h0 u1)
    have c2 := c_X6_undo hl (G := G) (J := (nI (S 1 1 - 1)).toInt64) (E := E) hm1 hc hc8 hc0
    rw [hS1] at c1 u2 u3 u4
    obtain ⟨S2, hS2⟩ : ∃ S2, mUn (zU (zU S1 12 0 0) 12 1 (c - 1)) (c - 1) 109 = S2 := ⟨_, rfl⟩
    rw [hS2] at c2 u2 u4
    have so : ∀ a b, a ≠ 12 → a ≠ 13 → S2 a b = S1 a b := fun a b h12 h13 => by rw [← hS2, mUn_o h13, zU_o h12, zU_o h12]
    have s12 : ∀ b, b ≠ 0 → b ≠ 1 → S2 12 b = S 12 b := fun b b0 b1 => by rw [← hS2, mUn_o (by decide), zU_j b1, zU_j b0]; exact ho _ _ (by decide) (by decide)
    have Hx : zInv S1 S2 := by
      refine ⟨⟨u2, u3, u4, fun r hr => ?_, fun j hj r hr => ?_⟩, H.2.same (fun a b h => ho a b (by omega) (by omega)) (fun a b h => ?_)⟩
      · rw [← hS2]; unfold mUn
        rw [if_pos ⟨rfl, by omega⟩, zU_o (by decide), zU_o (by decide), ho _ _ (by decide) (by decide)]
        exact Pp (c - 1) (by omega) r hr
      · show S2 17 _ ≤ 1
        rw [so _ _ (by decide) (by decide), ho _ _ (by decide) (by decide)]; exact Pp j hj r hr
      · rcases h with ⟨rfl, hb⟩ | h
        · exact s12 b (by omega) (by omega)
        · exact (so a b (by omega) (by omega)).trans (ho a b (by omega) (by omega))
    refine ⟨0, _, _, _, 0, 0, S1, S2, _, ⟨by decide, by decide, by decide, by decide⟩, c1, c2, ?_, by decide, fun _ => by rw [hc1], Hx.of (fun a b h => so a b (by omega) (by omega)) (fun _ _ _ _ => rfl)⟩
    rw [← hS2, mUn_o (by decide), zU_j (by decide), zU_s]
set_option maxHeartbeats 2000000 in
theorem op_restore (hl : l.stackTraces = false) (H : zInv S S) : zOpW l G S J E mL_restore hhL_restore [.ref 0, .ref 23] mX6_restore [.ref 12] := by
  have hm := H.1.mn
  obtain ⟨T, Gd, Hh, Dd, Pp⟩ := id H.1
  have sn := H.2.1
  have dd := H.2.2.1
  by_cases h0 : S 0 7 = 0
  · exact zOpW.thr H (fun _ _ _ _ _ _ => rfl) (tL_restore_1 hl (t3_X5_restore hl h0)) (c1_X6_restore hl hm (sn.1.symm.trans h0)) ⟨by decide, by decide⟩ rfl (by decide)
  · obtain ⟨S1, hS1⟩ : ∃ S1, zU (zScCp S 25 57) 1 1 0 = S1 := ⟨_, rfl⟩
    have ho : ∀ a b, a ≠ 1 → a < 25 ∨ 41 ≤ a → S1 a b = S a b := fun a b h1 h2 => by rw [← hS1, zU_o h1, zScCp_o (by omega)]
    have sn1 : zSn S S1 := ⟨by rw [ho 12 4 (by decide) (by decide)]; exact sn.1, sn.2.1, fun h => ⟨(sn.2.2 h).1.row (fun k _ => ho _ _ (by decide) (by decide)), (sn.2.2 h).2⟩⟩
    have hm1 : mNow S1 (S 26 0) (S 25 4) := mNow_row (fun b _ => ho 13 b (by decide) (by decide)) hm
    obtain ⟨e1, e2, e3, e4⟩ := tie_restore sn1 h0
    have c1 := rL_restore hl (c_X5_restore hl (G := G) (J := J) (E := E) sn.2.1 h0 e4)
    have c2 := c_X6_restore hl (G := G) (J := (nI (S 58 0)).toInt64) (E := E) hm1 (by rw [← sn1.1]; exact sn.2.1) (by rw [← sn1.1]; exact h0)
    rw [hS1] at c1 e2 e3
    obtain ⟨S2, hS2⟩ : ∃ S2, zU (zCp (zU S1 12 0 0) 15 13 109) 12 1 0 = S2 := ⟨_, rfl⟩
    rw [hS2] at c2 e2
    have so : ∀ a b, a ≠ 12 → a ≠ 13 → S2 a b = S1 a b := fun a b h12 h13 => by rw [← hS2, zU_o h12, zCp_o h13, zU_o h12]
    have s12 : ∀ b, b ≠ 0 → b ≠ 1 → S2 12 b = S 12 b := fun b b0 b1 => by rw [← hS2, zU_j b1, zCp_o (by decide), zU_j b0]; exact ho _ _ (by decide) (by decide)
    have s11 : S2 12 1 = 0 := by rw [← hS2, zU_s]
    have Hx : zInv S1 S2 := by
      refine ⟨⟨e2, e3, ⟨?_, by rw [s11]; decide, ?_, fun j hj => by rw [s11] at hj; exact absurd hj (Nat.not_lt_zero _)⟩, fun r hr => ?_, fun j hj r hr => ?_⟩, H.2.same (fun a b h => ho a b (by omega) (by omega)) (fun a b h => ?_)⟩
      · rw [s11, ← hS1, zU_s]
      · rw [← hS1, zU_j (by decide), zScCp_o (by decide)]; exact Hh.2.2.1
      · rw [← hS2, zU_o (by decide), zCp_at (by omega), zU_o (by decide), ho _ _ (by decide) (by decide)]; exact dd r hr
      · show S2 17 _ ≤ 1
        rw [so _ _ (by decide) (by decide), ho _ _ (by decide) (by decide)]; exact Pp j hj r hr
      · rcases h with ⟨rfl, hb⟩ | h
        · exact s12 b (by omega) (by omega)
        · exact (so a b (by omega) (by omega)).trans (ho a b (by omega) (by omega))
    refine ⟨0, _, _, _, 0, 0, S1, S2, _, ⟨by decide, by decide, by decide, by decide⟩, c1, c2, ?_, by decide, fun _ => by rw [e1], Hx.of (fun a b h => so a b (by omega) (by omega)) (fun _ _ _ _ => rfl)⟩
    rw [← hS2, zU_j (by decide), zCp_o (by decide), zU_s]
set_option maxHeartbeats 2000000 in
theorem op_save (hl : l.stackTraces = false) (H : zInv S S) : zOpS l G S J E mX5_save mX6_save := by
  have hw := H.1.2.1.now
  have hm := H.1.mn
  obtain ⟨T, Gd, Hh, Dd, Pp⟩ := id H.1
  obtain ⟨S1, hS1⟩ : ∃ S1, zU (zScCp S 57 25) 0 7 1 = S1 := ⟨_, rfl⟩
  have ho : ∀ a b, a ≠ 0 ∨ b ≠ 7 → a < 57 ∨ 73 ≤ a → S1 a b = S a b := fun a b h1 h2 => by
    rw [← hS1]
    rcases h1 with h1 | h1
    · rw [zU_o h1, zScCp_o (by omega)]
    · by_cases ha : a = 0
      · rw [ha, zU_j h1, zScCp_o (by decide)]
      · rw [zU_o ha, zScCp_o (by omega)]
  have hm1 : mNow S1 (S 26 0) (S 25 4) := mNow_row (fun b _ => ho 13 b (Or.inl (by decide)) (by decide)) hm
  have T1 : zTie S 25 (S1 13) := T.row (fun k _ => ho 13 k (Or.inl (by decide)) (by decide))
  have sn2 := tie_save T1 Gd
  have c1 := c_X5_save hl (G := G) (J := J) (E := E) hw
  have c2 := c_X6_save hl (G := G) (J := J) (E := E) hm1
  rw [hS1] at c1 sn2
  obtain ⟨S2, hS2⟩ : ∃ S2, zU (zCp (zU S1 12 0 0) 13 15 109) 12 4 1 = S2 := ⟨_, rfl⟩
  rw [hS2] at c2 sn2
  have so : ∀ a b, a ≠ 12 → a ≠ 15 → S2 a b = S1 a b := fun a b h12 h15 => by rw [← hS2, zU_o h12, zCp_o h15, zU_o h12]
  have s12 : ∀ b, b ≠ 0 → b ≠ 4 → S2 12 b = S 12 b := fun b b0 b4 => by rw [← hS2, zU_j b4, zCp_o (by decide), zU_j b0]; exact ho _ _ (Or.inl (by decide)) (by decide)
  have sa : ∀ a b, a ≠ 12 → a ≠ 15 → a ≠ 0 → a < 57 ∨ 73 ≤ a → S2 a b = S a b := fun a b h12 h15 h0 h => (so a b h12 h15).trans (ho a b (Or.inl h0) h)
  obtain ⟨-, -, zb, ln, c19, tx, wd, er⟩ := H.2
  have Hx : zInv S1 S2 := by
    refine ⟨H.1.same (fun a b h => ho a b (by omega) (by omega)) (fun a b h => ?_), sn2, fun r hr => ?_, ?_, ?_, fun i => ?_, ?_, ⟨fun k hk => ?_, fun k hk => ?_⟩, ?_⟩
    · rcases h with ⟨rfl, rfl⟩ | ⟨rfl, hb⟩ | rfl
      · exact s12 1 (by decide) (by decide)
      · exact sa _ b (by decide) (by decide) (by decide) (by decide)
      · exact sa _ b (by decide) (by decide) (by decide) (by decide)
    · rw [← hS2, zU_o (by decide), zCp_at (by omega), zU_o (by decide), ho _ _ (Or.inl (by decide)) (by decide)]; exact Dd r hr
    · obtain ⟨z1, z2, z3, z4⟩ := zb
      exact ⟨(ho 10 1 (Or.inl (by decide)) (by decide)).trans z1, by rw [ho 10 99 (Or.inl (by decide)) (by decide)]; exact z2, by rw [ho 10 3 (Or.inl (by decide)) (by decide), ho 10 99 (Or.inl (by decide)) (by decide)]; exact z3, fun i => by rw [ho 11 i (Or.inl (by decide)) (by decide)]; exact z4 i⟩
    · obtain ⟨l1, l2⟩ := ln
      refine ⟨by rw [ho 10 3 (Or.inl (by decide)) (by decide), s12 18 (by decide) (by decide)]; exact l1, fun i hi => ?_⟩
      rw [ho 10 3 (Or.inl (by decide)) (by decide)] at hi
      rw [ho 11 i (Or.inl (by decide)) (by decide), sa 19 i (by decide) (by decide) (by decide) (by decide)]; exact l2 i hi
    · rw [sa 19 i (by decide) (by decide) (by decide) (by decide)]; exact c19 i
    · obtain ⟨x1, x2, x3⟩ := tx
      exact ⟨by rw [ho 5 1 (Or.inl (by decide)) (by decide), s12 15 (by decide) (by decide)]; exact x1, by rw [ho 5 1 (Or.inl (by decide)) (by decide)]; exact x2, fun k hk => by rw [ho 6 k (Or.inl (by decide)) (by decide), sa 18 k (by decide) (by decide) (by decide) (by decide)]; exact x3 k hk⟩
    · rw [sa 21 k (by decide) (by decide) (by decide) (by decide)]; exact wd.1 k hk
    · rw [sa 22 k (by decide) (by decide) (by decide) (by decide)]; exact wd.2 k hk
    · obtain ⟨r1, r2, r3, r4⟩ := er
      exact ⟨by rw [ho 0 8 (Or.inr (by decide)) (by decide), s12 2 (by decide) (by decide)]; exact r1, by rw [ho 0 9 (Or.inr (by decide)) (by decide), s12 3 (by decide) (by decide)]; exact r2, by rw [ho 0 8 (Or.inr (by decide)) (by decide)]; exact r3, by rw [ho 0 9 (Or.inr (by decide)) (by decide)]; exact r4⟩
  exact ⟨_, _, _, _, S1, S2, ⟨by decide, by decide⟩, c1, c2, rfl, Hx.of (fun a b h => by
    by_cases h15 : a = 15
    · omega
    · exact so a b (by omega) h15) (fun _ _ _ _ => rfl)⟩
/-- what the reference's run leaves -/
theorem mRun_o {a b : Nat} {B : zS} (h12 : a ≠ 12) (h13 : a ≠ 13) (h14 : a ≠ 14) (h17 : a ≠ 17) (h20 : a ≠ 20) : (mRun B).2 a b = B a b := by
  have n0 : ∀ Q n t h, mCmE Q n t h a b = Q a b := fun Q n t h => by
    obtain ⟨⟨w, x, y, p, wr, nf⟩, hC⟩ : ∃ T, mCm (mS Q) h = T := ⟨_, rfl⟩
    rw [mCmE_of hC]
    split
    · rw [mDoes_o h13 (Or.inl h12)]; exact mRd_at h12 h20
    · exact mRd_at h12 h20
  have n1 : ∀ Q, mNx Q a b = Q a b := fun Q => by
    unfold mNx; split
    · exact n0 _ _ _ _
    · exact mRd_at h12 h20
  have n2 : ∀ (k c : Nat) (Q : zS), (mCsL k c Q).2 a b = Q a b := by
    intro k
    induction k with
    | zero => intro c Q; rfl
    | succ k ih =>
      intro c Q
      rw [mCsL]; split
      · exact (ih _ _).trans (n1 _)
      · rfl
  have n3 : ∀ Q, (mCs Q).2 a b = Q a b := fun Q => (n2 _ _ _).trans (n0 _ _ _ _)
  have m0 : mRn0 B a b = B a b := mRn0_o h14 h12
  have m1 : (mRn1 B).2 a b = B a b := by unfold mRn1; rw [n3, zU_o h12, n3, m0]
  have m2 : mRn2 B a b = B a b := by
    unfold mRn2; split
    · exact m1
    · rw [zU_o h12, zU_o h12]; exact m1
  unfold mRun
  split
  · unfold mEnd
    split
    · exact (mPush_o h17 (Or.inl h12)).trans m2
    · exact (zCp_o h13).trans m2
  · show zU (zU (mCs (mRn0 B)).2 12 2 _) 12 0 1 a b = B a b
    rw [zU_o h12, zU_o h12, n3, m0]
set_option maxHeartbeats 2000000 in
theorem op_runScript (hl : l.stackTraces = false) (H : zInv S S) : zOpW l G S J E mL_runScript hhL_runScript [.ref 0, .ref 23] mX6_runScript [.ref 12] := by
  have hw := H.1.2.1.now
  have hh := H.1.2.2.1.hist
  have htx := H.txt
  have fin : ∀ S1 : zS, zInv S1 (mRun S1).2 → zInv (mRun S1).2 (mRun S1).2 := fun S1 h => h.of (fun a b hab => mRun_o (by omega) (by omega) (by omega) (by omega) (by omega)) (fun _ _ _ _ => rfl)
  have tie : ∀ S1 : zS, (∀ a b, 12 ≤ a → a < 25 → S1 a b = S a b) → zInv S S1 := fun S1 h => H.of (fun _ _ _ => rfl) (fun a b h1 h2 => h a b h1 (by omega))
  rcases H.script with ⟨pe, Q, p1, p2, -, -, -, p6⟩ | ⟨Q, re, Q2, p1, p2, p3, -, -, -, p6⟩ | ⟨Q, Q2, p1, p2, -, -, -, p6⟩
  · have H1 := tie (zU Q 0 8 pe) (fun a b h1 h2 => (zU_o (by omega)).trans (p6 a b h1 h2))
    have c1 := tL_runScript_1 hl (t2_X5_runScript hl (G := G) (J := J) (E := E) hw hh htx p1 p2)
    have c2 := c_X6_runScript hl (G := G) (J := J) (E := E) H1.1.mn.nw H1.ch
    rcases H1.script with ⟨pe', Q', q1, q2, q3, q4, q5, -⟩ | ⟨Q', re', Q2', q1, -⟩ | ⟨Q', Q2', q1, -⟩
    · obtain ⟨rfl, rfl⟩ : pe' = pe ∧ Q' = Q := by rw [p1] at q1; injection q1 with e1 e2; exact ⟨e1.symm, e2.symm⟩
      exact ⟨1, _, _, _, 1, 6, _, _, _, ⟨by decide, by decide, by decide, by decide⟩, c1, c2, q4, by decide, fun q => absurd q (by decide), fin _ q5⟩
    · rw [p1] at q1; injection q1 with e1 e2; exact absurd e1 p2
    · rw [p1] at q1; injection q1 with e1 e2; exact absurd e1 p2
  · have H1 := tie (zU Q2 0 9 re) (fun a b h1 h2 => (zU_o (by omega)).trans (p6 a b h1 h2))
    have c1 := tL_runScript_2 hl (t3_X5_runScript hl (G := G) (J := J) (E := E) hw hh htx p1 rfl p2 p3)
    have c2 := c_X6_runScript hl (G := G) (J := J) (E := E) H1.1.mn.nw H1.ch
    rcases H1.script with ⟨pe', Q', q1, q2, -⟩ | ⟨Q', re', Q2', q1, q2, q3, q4, q5, q6, -⟩ | ⟨Q', Q2', q1, q2, -⟩
    · rw [p1] at q1; injection q1 with e1 e2; exact absurd e1.symm q2
    · obtain rfl : Q' = Q := by rw [p1] at q1; injection q1 with e1 e2; exact e2.symm
      obtain ⟨rfl, rfl⟩ : re' = re ∧ Q2' = Q2 := by rw [p2] at q2; injection q2 with e1 e2; exact ⟨e1.symm, e2.symm⟩
      exact ⟨2, _, _, _, 1, 6, _, _, _, ⟨by decide, by decide, by decide, by decide⟩, c1, c2, q5, by decide, fun q => absurd q (by decide), fin _ q6⟩
    · obtain rfl : Q' = Q := by rw [p1] at q1; injection q1 with e1 e2; exact e2.symm
      rw [p2] at q2; injection q2 with e1 e2; exact absurd e1 p3
  · have H1 := tie Q2 p6
    have c1 := rL_runScript hl (c_X5_runScript hl (G := G) (J := J) (E := E) hw hh htx p1 rfl p2 rfl)
    have c2 := c_X6_runScript hl (G := G) (J := (nI (Q2 5 5)).toInt64) (E := E) H1.1.mn.nw H1.ch
    rcases H1.script with ⟨pe', Q', q1, q2, -⟩ | ⟨Q', re', Q2', q1, q2, q3, -⟩ | ⟨Q', Q2', q1, q2, q3, q4, q5, -⟩
    · rw [p1] at q1; injection q1 with e1 e2; exact absurd e1.symm q2
    · obtain rfl : Q' = Q := by rw [p1] at q1; injection q1 with e1 e2; exact e2.symm
      rw [p2] at q2; injection q2 with e1 e2; exact absurd e1.symm q3
    · obtain rfl : Q' = Q := by rw [p1] at q1; injection q1 with e1 e2; exact e2.symm
      obtain rfl : Q2' = Q2 := by rw [p2] at q2; injection q2 with e1 e2; exact e2.symm
      exact ⟨0, _, _, _, 0, 0, _, _, _, ⟨by decide, by decide, by decide, by decide⟩, c1, c2, q4, by decide, fun _ => by rw [q3], fin _ q5⟩
end OR3
