/-! one call, of both sides: forecasts, lines, the text, the past, the state put by -/
section OQ
variable {l : Launch} {G : zG} {S : zS} {J : Int64} {E : UInt64}
theorem zFwd_o {n k a b : Nat} {S : zS} (h3 : a ≠ 3) (h4 : a ≠ 4) : zFwd n k S a b = S a b := by
  unfold zFwd
  exact zIt_inv (fun p : zS => p a b = S a b) rfl (fun _ _ _ hp => (zSpread_off h3 h4).trans hp)
theorem zFore_o {n e a b : Nat} (h3 : a ≠ 3) (h4 : a ≠ 4) : ∀ (k r : Nat) (q : zS), (zFore n e k r q).2 a b = q a b := by
  intro k
  induction k with
  | zero => intro r q; rfl
  | succ k ih =>
    intro r q
    rw [zFore]
    split
    · exact zSpread_off h3 h4
    · exact (ih _ _).trans (zSpread_off h3 h4)
/-- the reference's forecasts leave its state as it was -/
theorem zInv.fc {S1 X : zS} (H1 : zInv S S1) (hS1 : ∀ a b, a ≠ 3 → a ≠ 4 → S1 a b = S a b) (hX : ∀ a b, a ≠ 13 → X a b = mKp S1 a b) (c : Nat → Nat) {S2 : zS} (h2 : ∀ a b, a ≠ 12 ∨ b ≠ 0 → S2 a b = zCp X 16 13 109 a b) : zInv S2 S2 := by
  have k12 : ∀ b, b ≠ 0 → mKp S1 12 b = S1 12 b := fun b hb => by rw [mKp_12, if_neg hb]
  have ko : ∀ a b, a ≠ 12 → a ≠ 16 → mKp S1 a b = S1 a b := fun a b h1 h2 => by unfold mKp; rw [zCp_o h2, zU_o h1]
  have k16 : ∀ b, b < 109 → mKp S1 16 b = S1 13 b := fun b hb => by unfold mKp; rw [zCp_at hb, zU_o (by decide)]
  have m12 : ∀ b, b ≠ 0 → S2 12 b = S1 12 b := fun b hb => by rw [h2 _ _ (Or.inr hb), zCp_o (by decide), hX _ _ (by decide), k12 b hb]
  have mo : ∀ a b, a ≠ 12 → a ≠ 13 → a ≠ 16 → S2 a b = S1 a b := fun a b h12 h13 h16 => by rw [h2 _ _ (Or.inl h12), zCp_o h13, hX _ _ h13, ko a b h12 h16]
  have m13 : ∀ b, b < 109 → S2 13 b = S1 13 b := fun b hb => by rw [h2 _ _ (Or.inl (by decide)), zCp_at hb, hX _ _ (by decide), k16 b hb]
  refine H1.same (fun a b h => ?_) (fun a b h => ?_) (fun a b h => ?_) (fun a b h => ?_)
  · rw [mo a b (by omega) (by omega) (by omega)]; exact hS1 a b (by omega) (by omega)
  · rw [mo a b (by omega) (by omega) (by omega)]; exact hS1 a b (by omega) (by omega)
  · rcases h with ⟨rfl, rfl⟩ | ⟨rfl, hb⟩ | rfl
    · exact m12 1 (by decide)
    · exact m13 b hb
    · exact mo _ b (by decide) (by decide) (by decide)
  · rcases h with ⟨rfl, hb⟩ | h
    · exact m12 b (by omega)
    · exact mo a b (by omega) (by omega) (by omega)
set_option maxHeartbeats 2000000 in
theorem op_spreadersAfter (hl : l.stackTraces = false) (H : zInv S S) {x : Nat} (hx : x < 2 ^ 32) {y : Nat} (hy : y < 2 ^ 32) : zOpW l G S J E mL_spreadersAfter hhL_spreadersAfter [.ref 0, zi x, zi y, .ref 23] mX6_spreadersAfter [.ref 12, zi x, zi y] := by
  obtain ⟨T, Gd, Hh, Dd, Pp⟩ := id H.1
  have hw := Gd.now
  have hm := H.1.mn
  by_cases h : x < S 25 4
  · by_cases h2 : y ≤ 40
    · obtain ⟨S1, hS1⟩ : ∃ S1, zFwd (S 26 0) y (zRcp S 3 (33 + 2 * x)) = S1 := ⟨_, rfl⟩
      have ho : ∀ a b, a ≠ 3 → a ≠ 4 → S1 a b = S a b := fun a b h3 h4 => by rw [← hS1, zFwd_o h3 h4, zRcp_o h3 h4]
      have H1 : zInv S S1 := H.of (fun _ _ _ => rfl) (fun a b h1 h2 => ho a b (by omega) (by omega))
      have c1 := rL_spreadersAfter hl (c_X5_spreadersAfter hl (G := G) (J := J) (E := E) hw hx h hy h2)
      have e := tie_after H1.1.1 H1.1.2.1 rfl rfl (y := y) h
      rw [hS1] at c1 e
      have c2 := c_X6_spreadersAfter hl (G := G) (S := S1) (J := (nI (zpop (S1 3 3))).toInt64) (E := E) H1.1.mn hx hy
      have eA : mAft S1 (S 26 0) (S 25 4) x y = (zpop ((mRds (S 26 0) (S 25 4) y (mKp S1)).2 13 (41 + 5 * x + 3)), zCp (mRds (S 26 0) (S 25 4) y (mKp S1)).2 16 13 109) := by unfold mAft; rw [if_pos h, if_pos h2]
      rw [eA] at c2
      refine ⟨0, _, _, _, 0, 0, S1, _, _, ⟨by decide, by decide, by decide, by decide⟩, c1, c2, ?_, by decide, fun _ => by rw [e], H1.fc ho (fun a b h13 => mRds_o h13) id (fun a b _ => rfl)⟩
      dsimp only
      rw [zCp_o (by decide), mRds_o (by decide), mKp_12, if_pos rfl]
    · have c2 := c_X6_spreadersAfter hl (G := G) (S := S) (J := J) (E := E) hm hx hy
      have eA : mAft S (S 26 0) (S 25 4) x y = mFl S 2 := by unfold mAft; rw [if_pos h, if_neg h2]
      rw [eA] at c2
      exact zOpW.thr H (fun _ _ _ _ _ _ => rfl) (tL_spreadersAfter_2 hl (t2_X5_spreadersAfter hl hw hx h hy h2)) c2 ⟨by decide, by decide⟩ rfl (by decide)
  · have c2 := c_X6_spreadersAfter hl (G := G) (S := S) (J := J) (E := E) hm hx hy
    have eA : mAft S (S 26 0) (S 25 4) x y = mFl S 1 := by unfold mAft; rw [if_neg h]
    rw [eA] at c2
    exact zOpW.thr H (fun _ _ _ _ _ _ => rfl) (tL_spreadersAfter_1 hl (t1_X5_spreadersAfter hl hw hx h hy)) c2 ⟨by decide, by decide⟩ rfl (by decide)
set_option maxHeartbeats 2000000 in
theorem op_roundsUntilHeard (hl : l.stackTraces = false) (H : zInv S S) {x : Nat} (hx : x < 2 ^ 32) {y : Nat} (hy : y < 2 ^ 32) : zOpW l G S J E mL_roundsUntilHeard hhL_roundsUntilHeard [.ref 0, zi x, zi y, .ref 23] mX6_roundsUntilHeard [.ref 12, zi x, zi y] := by
  obtain ⟨T, Gd, Hh, Dd, Pp⟩ := id H.1
  have hw := Gd.now
  have hm := H.1.mn
  have ht4 : S 25 4 ≤ 4 := Gd.2.1
  by_cases h : x < S 25 4
  · obtain ⟨-, -, -, r3, r4⟩ := T.r (show x < 4 by omega)
    by_cases h2 : y < S 26 0
    · have hp : x < S 25 4 ∧ y < S 26 0 := ⟨h, h2⟩
      cases ha : (S (33 + 2 * x) 3 ||| S (33 + 2 * x) 4).testBit y with
      | true =>
        have hb : (S 13 (41 + 5 * x + 3) ||| S 13 (41 + 5 * x + 4)).testBit y = true := by rw [r3, r4]; exact ha
        have c2 := c_X6_roundsUntilHeard hl (G := G) (S := S) (J := J) (E := E) hm hx hy
        have eA : mRuhF S (S 26 0) (S 25 4) x y = mFl S 2 := by unfold mRuhF; rw [if_pos hp, if_pos hb]
        rw [eA] at c2
        exact zOpW.thr H (fun _ _ _ _ _ _ => rfl) (tL_roundsUntilHeard_2 hl (t3_X5_roundsUntilHeard hl hw hx h hy h2 ha)) c2 ⟨by decide, by decide⟩ rfl (by decide)
      | false =>
        obtain ⟨⟨v, S1⟩, hS1⟩ : ∃ T, zFore (S 26 0) y 40 1 (zRcp S 3 (33 + 2 * x)) = T := ⟨_, rfl⟩
        have ho : ∀ a b, a ≠ 3 → a ≠ 4 → S1 a b = S a b := fun a b h3 h4 => by
          have := zFore_o (n := S 26 0) (e := y) (a := a) (b := b) h3 h4 40 1 (zRcp S 3 (33 + 2 * x))
          rw [hS1] at this
          rw [show S1 a b = zRcp S 3 (33 + 2 * x) a b from this, zRcp_o h3 h4]
        have H1 : zInv S S1 := H.of (fun _ _ _ => rfl) (fun a b h1 h2 => ho a b (by omega) (by omega))
        have hb : ¬ (S1 13 (41 + 5 * x + 3) ||| S1 13 (41 + 5 * x + 4)).testBit y = true := by rw [ho _ _ (by decide) (by decide), ho _ _ (by decide) (by decide), r3, r4, ha]; decide
        have eF : mRuhF S1 (S 26 0) (S 25 4) x y = mRuh S1 (S 26 0) (S 25 4) x y := by unfold mRuhF; rw [if_pos hp, if_neg hb]
        have e := tie_ruh H1.1.1 H1.1.2.1 rfl rfl (y := y) h ha
        rw [hS1] at e
        dsimp only at e
        have fc : ∀ S2 : zS, (∀ a b, a ≠ 12 ∨ b ≠ 0 → S2 a b = zCp (mHL (S 26 0) (S 25 4) x y 40 0 (mKp S1)).2 16 13 109 a b) → zInv S2 S2 := fun S2 hS2 => H1.fc ho (fun a b h13 => mHL_o h13 _ _ _) id hS2
        rcases e with ⟨e1, e2⟩ | ⟨e1, e2⟩
        · have c1 := tL_roundsUntilHeard_3 hl (t4_X5_roundsUntilHeard hl (G := G) (J := J) (E := E) hw hx h hy h2 ha (by rw [hS1]; exact e1))
          rw [hS1] at c1
          have c2 := c_X6_roundsUntilHeard hl (G := G) (S := S1) (J := J) (E := E) H1.1.mn hx hy
          rw [eF, e2] at c2
          exact ⟨3, _, _, _, 1, 6, S1, _, _, ⟨by decide, by decide, by decide, by decide⟩, c1, c2, (by dsimp only; exact zU_s), by decide, fun q => absurd q (by decide), fc _ (fun a b hab => by
            rcases hab with hab | hab
            · exact zU_o hab
            · exact zU_j hab)⟩
        · have c1 := rL_roundsUntilHeard hl (c_X5_roundsUntilHeard hl (G := G) (J := J) (E := E) hw hx h hy h2 ha (by rw [hS1]; show v < _; omega) (by rw [hS1]; show ¬ v = _; omega))
          rw [hS1] at c1
          have c2 := c_X6_roundsUntilHeard hl (G := G) (S := S1) (J := (nI v).toInt64) (E := E) H1.1.mn hx hy
          rw [eF, e2] at c2
          refine ⟨0, _, _, _, 0, 0, S1, _, _, ⟨by decide, by decide, by decide, by decide⟩, c1, c2, ?_, by decide, fun _ => rfl, fc _ (fun a b _ => rfl)⟩
          dsimp only
          rw [zCp_o (by decide), mHL_o (by decide), mKp_12, if_pos rfl]
    · have c2 := c_X6_roundsUntilHeard hl (G := G) (S := S) (J := J) (E := E) hm hx hy
      have eA : mRuhF S (S 26 0) (S 25 4) x y = mFl S 1 := by unfold mRuhF; rw [if_neg (fun q => h2 q.2)]
      rw [eA] at c2
      exact zOpW.thr H (fun _ _ _ _ _ _ => rfl) (tL_roundsUntilHeard_1 hl (t2_X5_roundsUntilHeard hl hw hx h hy h2)) c2 ⟨by decide, by decide⟩ rfl (by decide)
  · have c2 := c_X6_roundsUntilHeard hl (G := G) (S := S) (J := J) (E := E) hm hx hy
    have eA : mRuhF S (S 26 0) (S 25 4) x y = mFl S 1 := by unfold mRuhF; rw [if_neg (fun q => h q.1)]
    rw [eA] at c2
    exact zOpW.thr H (fun _ _ _ _ _ _ => rfl) (tL_roundsUntilHeard_1 hl (t1_X5_roundsUntilHeard hl hw hx h hy)) c2 ⟨by decide, by decide⟩ rfl (by decide)
/-- the line's signs are chars -/
theorem mW_lt {B : zS} {c : Nat} (h : ∀ i, B 19 i < 65536) (hc : c < 65536) : ∀ i, mW B c 19 i < 65536 := fun i => by
  rw [mW_19]; split
  · exact hc
  · exact h i
theorem mWn_lt {B : zS} {x : Nat} (h : ∀ i, B 19 i < 65536) (hx : x ≤ 12) : ∀ i, mWn B x 19 i < 65536 := by
  unfold mWn
  split
  · exact mW_lt h (by omega)
  · exact mW_lt (mW_lt h (by omega)) (by omega)
theorem mLn_lt {B : zS} (h : ∀ i, B 19 i < 65536) : ∀ i, mLn B 19 i < 65536 := fun i => by rw [mLn_o (by decide)]; exact h i
theorem mRR_lt {B : zS} {n x : Nat} (h : ∀ i, B 19 i < 65536) (hx : x ≤ 12) (hf : B 13 (41 + 5 * x + 0) ≤ 12) : ∀ i, mRR B n x 19 i < 65536 := by
  unfold mRR
  refine zIt_inv (fun q : zS => ∀ i, q 19 i < 65536) ?_ (fun e q _ hq => mW_lt hq ?_)
  · have h0 : ∀ i, mRR0 B x 19 i < 65536 := by
      unfold mRR0
      exact mWn_lt (mW_lt (mWn_lt (mW_lt (mLn_lt h) (by decide)) hx) (by decide)) hf
    unfold mRR1
    split
    · exact mW_lt h0 (by decide)
    · exact h0
  · unfold mSg
    split
    · decide
    · split <;> decide
theorem mRH_lt {B : zS} {n x : Nat} (h : ∀ i, B 19 i < 65536) (hn : n ≤ 12) : ∀ i, mRH B n x 19 i < 65536 := by
  unfold mRH
  refine zIt_inv (fun q : zS => ∀ i, q 19 i < 65536) (mLn_lt h) (fun e q he hq => ?_)
  unfold mRHs
  split
  · refine mWn_lt ?_ (by omega)
    split
    · exact mW_lt hq (by decide)
    · exact hq
  · exact hq
/-- a line made by both -/
theorem zInv.line {S1 S2 : zS} (H : zInv S S) (hA : ∀ a b, a ≠ 10 → a ≠ 11 → S1 a b = S a b) (hB : ∀ a b, a ≠ 19 → a ≠ 12 → S2 a b = S1 a b) (h12 : ∀ b, b ≠ 0 → b ≠ 18 → S2 12 b = S1 12 b) (L : zLn S1 S2) (Z : zSB S1) (h19 : ∀ i, S2 19 i < 65536) : zInv S2 S2 := by
  have m : ∀ a b, a ≠ 10 → a ≠ 11 → a ≠ 19 → a ≠ 12 → S2 a b = S a b := fun a b h10 h11 h19 h12 => (hB a b h19 h12).trans (hA a b h10 h11)
  have m12 : ∀ b, b ≠ 0 → b ≠ 18 → S2 12 b = S 12 b := fun b h0 h18 => (h12 b h0 h18).trans (hA 12 b (by decide) (by decide))
  have e10 : ∀ a b, a = 10 ∨ a = 11 → S2 a b = S1 a b := fun a b h => hB a b (by omega) (by omega)
  obtain ⟨K, sn, dd, -, -, -, tx, wd, er⟩ := id H
  refine ⟨K.same (fun a b h => m a b (by omega) (by omega) (by omega) (by omega)) (fun a b h => ?_), ?_, fun r hr => by rw [m 15 _ (by decide) (by decide) (by decide) (by decide)]; exact dd r hr, ?_, ?_, h19, ?_, ⟨fun k hk => by rw [m 21 _ (by decide) (by decide) (by decide) (by decide)]; exact wd.1 k hk, fun k hk => by rw [m 22 _ (by decide) (by decide) (by decide) (by decide)]; exact wd.2 k hk⟩, ?_⟩
  · rcases h with ⟨rfl, rfl⟩ | ⟨rfl, hb⟩ | rfl
    · exact m12 1 (by decide) (by decide)
    · exact m _ b (by decide) (by decide) (by decide) (by decide)
    · exact m _ b (by decide) (by decide) (by decide) (by decide)
  · obtain ⟨s1, s2, s3⟩ := sn
    refine ⟨by rw [m 0 7 (by decide) (by decide) (by decide) (by decide), m12 4 (by decide) (by decide)]; exact s1, by rw [m 0 7 (by decide) (by decide) (by decide) (by decide)]; exact s2, fun h => ?_⟩
    rw [m 0 7 (by decide) (by decide) (by decide) (by decide)] at h
    exact ⟨((s3 h).1.far (fun a k h1 h2 => m a k (by omega) (by omega) (by omega) (by omega))).row (fun k _ => m 15 k (by decide) (by decide) (by decide) (by decide)), (s3 h).2.far (fun a k h1 h2 => m a k (by omega) (by omega) (by omega) (by omega))⟩
  · obtain ⟨z1, z2, z3, z4⟩ := Z
    exact ⟨(e10 10 1 (Or.inl rfl)).trans z1, by rw [e10 10 99 (Or.inl rfl)]; exact z2, by rw [e10 10 3 (Or.inl rfl), e10 10 99 (Or.inl rfl)]; exact z3, fun i => by rw [e10 11 i (Or.inr rfl)]; exact z4 i⟩
  · obtain ⟨l1, l2⟩ := L
    refine ⟨(e10 10 3 (Or.inl rfl)).trans l1, fun i hi => ?_⟩
    rw [e10 10 3 (Or.inl rfl)] at hi
    exact (e10 11 i (Or.inr rfl)).trans (l2 i hi)
  · obtain ⟨x1, x2, x3⟩ := tx
    exact ⟨by rw [m 5 1 (by decide) (by decide) (by decide) (by decide), m12 15 (by decide) (by decide)]; exact x1, by rw [m 5 1 (by decide) (by decide) (by decide) (by decide)]; exact x2, fun k hk => by rw [m 6 k (by decide) (by decide) (by decide) (by decide), m 18 k (by decide) (by decide) (by decide) (by decide)]; exact x3 k hk⟩
  · obtain ⟨r1, r2, r3, r4⟩ := er
    exact ⟨by rw [m 0 8 (by decide) (by decide) (by decide) (by decide), m12 2 (by decide) (by decide)]; exact r1, by rw [m 0 9 (by decide) (by decide) (by decide) (by decide), m12 3 (by decide) (by decide)]; exact r2, by rw [m 0 8 (by decide) (by decide) (by decide) (by decide)]; exact r3, by rw [m 0 9 (by decide) (by decide) (by decide) (by decide)]; exact r4⟩
set_option maxHeartbeats 2000000 in
theorem op_renderRumour (hl : l.stackTraces = false) (hG : G.2.2.1 298 ≠ 1) (H : zInv S S) {x : Nat} (hx : x < 2 ^ 32) : zOpW l G S J E mL_renderRumour hhL_renderRumour [.ref 0, zi x, .ref 23] mX6_renderRumour [.ref 12, zi x] := by
  obtain ⟨T, Gd, Hh, Dd, Pp⟩ := id H.1
  have hw := Gd.now
  have hm := H.1.mn
  have ht4 : S 25 4 ≤ 4 := Gd.2.1
  by_cases h : x < S 25 4
  · have hA : ∀ a b, a ≠ 10 → a ≠ 11 → zRR S (S 26 0) x a b = S a b := fun a b h1 h2 => zRR_o h1 h2
    have H1 : zInv S (zRR S (S 26 0) x) := H.of (fun _ _ _ => rfl) (fun a b h1 h2 => hA a b (by omega) (by omega))
    obtain ⟨L, Z, -⟩ := tie_rr H1.1.1 H1.1.2.1 H.2.2.2.1 rfl h
    have f0 : mRR (zRR S (S 26 0) x) (S 26 0) x 12 0 = 0 := by rw [mRR_12 (by decide), mLn_0]
    refine ⟨0, _, _, _, 18, 612, _, _, _, ⟨by decide, by decide, by decide, by decide⟩, rL_renderRumour hl (c_X5_renderRumour hl hw hG H.2.2.2.1 hx h), c_X6_renderRumour hl H1.1.mn hx h, f0, by decide, fun _ => by rw [L.1], ?_⟩
    refine H.line hA (fun a b h1 h2 => mRR_o h1 h2) (fun b h0 h18 => by rw [mRR_12 h18, mLn_12 h18 h0]) L Z (mRR_lt (fun i => by rw [hA _ _ (by decide) (by decide)]; exact H.2.2.2.2.2.1 i) (by omega) ?_)
    have := (H1.1.mn.2.2.2.2.2 x (by omega)).1
    omega
  · exact zOpW.thr H (fun _ _ _ _ _ _ => rfl) (tL_renderRumour_1 hl (t1_X5_renderRumour hl hw hx h)) (c1_X6_renderRumour hl hm hx h) ⟨by decide, by decide⟩ rfl (by decide)
set_option maxHeartbeats 2000000 in
theorem op_renderHive (hl : l.stackTraces = false) (hG : G.2.2.1 298 ≠ 1) (H : zInv S S) {x : Nat} (hx : x < 2 ^ 32) : zOpW l G S J E mL_renderHive hhL_renderHive [.ref 0, zi x, .ref 23] mX6_renderHive [.ref 12, zi x] := by
  obtain ⟨T, Gd, Hh, Dd, Pp⟩ := id H.1
  have hw := Gd.now
  have hm := H.1.mn
  have hz : S 26 0 ≤ 12 := Gd.1
  by_cases h : x < 4
  · have hA : ∀ a b, a ≠ 10 → a ≠ 11 → zRH S (S 26 0) x a b = S a b := fun a b h1 h2 => zRH_o h1 h2
    have H1 : zInv S (zRH S (S 26 0) x) := H.of (fun _ _ _ => rfl) (fun a b h1 h2 => hA a b (by omega) (by omega))
    obtain ⟨L, Z, -⟩ := tie_rh H1.1.1 H1.1.2.1 H.2.2.2.1 rfl (x := x)
    have f0 : mRH (zRH S (S 26 0) x) (S 26 0) x 12 0 = 0 := by rw [mRH_12 (by decide), mLn_0]
    refine ⟨0, _, _, _, 25, 850, _, _, _, ⟨by decide, by decide, by decide, by decide⟩, rL_renderHive hl (c_X5_renderHive hl hw hG H.2.2.2.1 hx h), c_X6_renderHive hl H1.1.mn hx h, f0, by decide, fun _ => by rw [L.1], ?_⟩
    exact H.line hA (fun a b h1 h2 => mRH_o h1 h2) (fun b h0 h18 => by rw [mRH_12 h18, mLn_12 h18 h0]) L Z (mRH_lt (fun i => by rw [hA _ _ (by decide) (by decide)]; exact H.2.2.2.2.2.1 i) hz)
  · exact zOpW.thr H (fun _ _ _ _ _ _ => rfl) (tL_renderHive_1 hl (t1_X5_renderHive hl hw hx h)) (c1_X6_renderHive hl hm hx h) ⟨by decide, by decide⟩ rfl (by decide)
set_option maxHeartbeats 2000000 in
theorem op_outputAt (hl : l.stackTraces = false) (hG : G.2.2.1 298 ≠ 1) (H : zInv S S) {x : Nat} (hx : x < 2 ^ 32) : zOpW l G S J E mL_outputAt hhL_outputAt [.ref 0, zi x, .ref 23] mX6_outputAt [.ref 12, zi x] := by
  have hm := H.1.mn
  have Z := H.2.2.2.1
  have L := H.2.2.2.2.1
  have h40 : S 12 18 ≤ 40 := by
    have := Z.2.2.1
    have := Z.2.1
    have := L.1
    omega
  have hch : ∀ i, i < 40 → S 19 i < 65536 := fun i _ => H.2.2.2.2.2.1 i
  by_cases h : x < S 10 3
  · have h2 : x < S 12 18 := L.1 ▸ h
    exact zOpW.ret H (fun _ _ _ _ _ _ => rfl) (rL_outputAt hl (c_X5_outputAt hl hG Z h)) (c_X6_outputAt hl hm h40 hch hx) ⟨by decide, by decide⟩ (if_pos h2) (by rw [if_pos h2, L.2 x h])
  · have h2 : ¬ x < S 12 18 := L.1 ▸ h
    exact zOpW.thr H (fun _ _ _ _ _ _ => rfl) (tL_outputAt_1 hl (t1_X5_outputAt hl Z hx h)) (c_X6_outputAt hl hm h40 hch hx) ⟨by decide, by decide⟩ (if_neg h2) (by decide)
end OQ
