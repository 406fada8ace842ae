/-! a script's run, tied as a whole -/
section RN
variable {A B : zS}
theorem mRn0_12 {b : Nat} (h0 : b ≠ 0) (h15 : b ≠ 15) (h17 : b ≠ 17) (h20 : b ≠ 20) : mRn0 B 12 b = B 12 b := by
  unfold mRn0; rw [zU_j h20, zU_j h15, zU_j h17, mBeg_oo (by decide) (Or.inr h0)]
theorem mRn0_14 {k : Nat} (h : k < 109) : mRn0 B 14 k = B 13 k := by
  unfold mRn0; rw [zU_o (by decide), zU_o (by decide), zU_o (by decide), mBeg_14 h]
theorem mRn0_15 : mRn0 B 12 15 = 0 := by unfold mRn0; rw [zU_j (by decide), zU_s]
theorem mRn0_17 : mRn0 B 12 17 = B 12 15 := by unfold mRn0; rw [zU_j (by decide), zU_j (by decide), zU_s]
theorem mRn0_20 : mRn0 B 12 20 = 0 := by unfold mRn0; rw [zU_s]
theorem mRn0_0 : mRn0 B 12 0 = 0 := by unfold mRn0; rw [zU_j (by decide), zU_j (by decide), zU_j (by decide), mBeg_0]
/-- the reference's memory behind its reading and doing -/
def zAft (B R : zS) : Prop := (∀ a b, a ≠ 12 → a ≠ 13 → a ≠ 14 → a ≠ 20 → R a b = B a b) ∧ (∀ b, b ≠ 0 → b ≠ 15 → b ≠ 16 → b ≠ 17 → b ≠ 19 → b ≠ 20 → R 12 b = B 12 b) ∧ R 12 15 = 0 ∧ ∀ k, k < 109 → R 14 k = B 13 k
theorem zAft.rd {h w : Nat} {L : Nat → Nat} : zAft B (mRd (mRn0 B) h w L) :=
  ⟨fun a b h12 _ h14 h20 => by rw [mRd_at h12 h20, mRn0_o h14 h12], fun b h0 h15 h16 h17 h19 h20 => by rw [mRd_12 h16 h19, mRn0_12 h0 h15 h17 h20], by rw [mRd_12 (by decide) (by decide), mRn0_15], fun k hk => by rw [mRd_at (by decide) (by decide), mRn0_14 hk]⟩
theorem zAft.on {X R : zS} (H : zAft B X) (h : ∀ a b, a ≠ 13 → a ≠ 20 → a ≠ 12 ∨ (b ≠ 0 ∧ b ≠ 16 ∧ b ≠ 19) → R a b = X a b) : zAft B R := by
  obtain ⟨h1, h2, h3, h4⟩ := H
  exact ⟨fun a b h12 h13 h14 h20 => (h a b h13 h20 (Or.inl h12)).trans (h1 a b h12 h13 h14 h20), fun b b0 b15 b16 b17 b19 b20 => (h 12 b (by decide) (by decide) (Or.inr ⟨b0, b16, b19⟩)).trans (h2 b b0 b15 b16 b17 b19 b20), (h 12 15 (by decide) (by decide) (Or.inr (by decide))).trans h3, fun k hk => (h 14 k (by decide) (by decide) (Or.inl (by decide))).trans (h4 k hk)⟩
theorem zAft.u {X : zS} (H : zAft B X) {b v : Nat} (hb : b = 0 ∨ b = 16 ∨ b = 17 ∨ b = 19 ∨ b = 20) : zAft B (zU X 12 b v) := by
  obtain ⟨h1, h2, h3, h4⟩ := H
  exact ⟨fun a k h12 h13 h14 h20 => (zU_o h12).trans (h1 a k h12 h13 h14 h20), fun k b0 b15 b16 b17 b19 b20 => (zU_j (by omega)).trans (h2 k b0 b15 b16 b17 b19 b20), (zU_j (by omega)).trans h3, fun k hk => (zU_o (by decide)).trans (h4 k hk)⟩
section PL
variable {P K : Nat → Nat} {M : Nat → Bool × Nat × Nat × Nat × Nat}
/-- where a command that is reached begins -/
theorem zSq.far (Hs : zSq A P K M) {c : Nat} (h : ∀ j, j < c → (M j).1 = true ∧ (M j).2.1 < A 5 1) : ∀ j, j ≤ c → P j ≤ A 5 1 ∧ 5 * j ≤ P j := by
  intro j
  induction j with
  | zero => intro _; rw [Hs.1]; exact ⟨Nat.zero_le _, Nat.le_refl _⟩
  | succ j ih =>
    intro hj
    obtain ⟨i1, i2⟩ := ih (by omega)
    obtain ⟨q1, q2⟩ := h j (by omega)
    have f4 := Hs.four q1
    rw [(Hs.2 j).2.2]
    omega
theorem zKp.same {Q R : zS} {c : Nat} (H : zKp K M Q c) (h5 : R 5 5 = Q 5 5) (h : ∀ a b, a = 7 ∨ a = 8 ∨ a = 9 → R a b = Q a b) : zKp K M R c :=
  ⟨h5.trans H.1, fun j hj => by rw [h 7 j (by decide), h 8 j (by decide), h 9 j (by decide)]; exact H.2 j hj⟩
end PL
theorem zInv.txt (H : zInv A B) : zTxt A := ⟨H.2.2.2.2.2.2.1.2.1, fun k hk => (H.2.2.2.2.2.2.1.2.2 k hk).2⟩
theorem zInv.ch (H : zInv A B) : mCh B := by
  obtain ⟨hK, -, -, -, -, -, ⟨x1, x2, x3⟩, hW, -⟩ := H
  exact ⟨x1 ▸ x2, fun k hk => by rw [← (x3 k hk).1]; exact (x3 k hk).2, hW, hK.c8⟩
theorem zInv.sg (H : zInv A B) : mS (mRn0 B) = zSg A := by
  obtain ⟨x1, x2, x3⟩ := H.2.2.2.2.2.2.1
  funext q
  unfold mS zSg
  rw [mRn0_17, ← x1]
  by_cases h : q < A 5 1
  · rw [if_pos h, if_pos h, mRn0_o (by decide) (by decide), (x3 q (by omega)).1]
  · rw [if_neg h, if_neg h]
/-- a script run by both -/
theorem zInv.script (H : zInv A B) :
    (∃ pe Q, zPrs A = (pe, Q) ∧ ¬ pe = 4294967295 ∧ (mRun B).1 = 0 ∧ (mRun B).2 12 0 = 1 ∧ zInv (zU Q 0 8 pe) (mRun B).2 ∧ ∀ a b, 12 ≤ a → a < 25 → Q a b = A a b) ∨
    (∃ Q re Q2, zPrs A = (4294967295, Q) ∧ zRunC Q (A 26 0) (A 25 4) = (re, Q2) ∧ ¬ re = 4294967295 ∧ (mRun B).1 = 0 ∧ (mRun B).2 12 0 = 2 ∧ zInv (zU Q2 0 9 re) (mRun B).2 ∧ ∀ a b, 12 ≤ a → a < 25 → Q2 a b = A a b) ∨
    (∃ Q Q2, zPrs A = (4294967295, Q) ∧ zRunC Q (A 26 0) (A 25 4) = (4294967295, Q2) ∧ (mRun B).1 = Q2 5 5 ∧ (mRun B).2 12 0 = 0 ∧ zInv Q2 (mRun B).2 ∧ ∀ a b, 12 ≤ a → a < 25 → Q2 a b = A a b) := by
  obtain ⟨P, K, M, Hs⟩ := zSq_is (A := A)
  obtain ⟨T, G, Hh, D13, D17⟩ := id H.1
  have htx := H.txt
  have hS := H.sg
  obtain ⟨x1, x2, x3⟩ := H.2.2.2.2.2.2.1
  obtain ⟨r1, r2, r3, r4⟩ := H.2.2.2.2.2.2.2.2
  have hn0 := (mRn0_ok H.1.mn.nw H.ch)
  have e17 : mRn0 B 12 17 = A 5 1 := mRn0_17.trans x1.symm
  have hro := (zPrs_inv htx).2.2
  have c13 : ∀ b, mRn0 B 13 b = B 13 b := fun b => mRn0_o (by decide) (by decide)
  obtain ⟨L0, eR⟩ := mCmE_read Hs (S := mRn0 B) (n := mRn0 B 13 0) (t := mRn0 B 13 1) hS mRn0_20 (i := 0)
  rw [Hs.1] at eR
  have eC : mCs (mRn0 B) = mCsL 61 1 (mRd (mRn0 B) (M 0).2.1 (if (M 0).1 = true then 0 else 1) L0) := by unfold mCs; rw [eR]
  have hx0 : ∀ (X Y : zS), X 5 1 = 0 → Y 12 15 = 0 → (∀ k, X 6 k = A 6 k) → (∀ k, Y 18 k = B 18 k) → zTx2 X Y := fun X Y h1 h2 h3 h4 => ⟨h1.trans h2.symm, by rw [h1]; exact Nat.zero_le _, fun k hk => by rw [h3, h4]; exact x3 k hk⟩
  rcases zRead_is Hs x2 60 0 (zU A 5 5 0) (zU_j (by decide)) (fun b => zU_o (by decide)) rfl (by rw [Hs.1]; exact Nat.zero_le _) (by rw [Hs.1]; exact Nat.le_refl _) ⟨zU_s, fun j hj => absurd hj (Nat.not_lt_zero _)⟩ with ⟨c, c1, c2, c3, c4, c5, c6⟩ | ⟨c, c1, c2, c3, c4⟩
  · -- read to its end
    right
    rw [Hs.1] at c5 c6
    obtain ⟨⟨pe, Q0⟩, hQ0⟩ : ∃ T, zRead 60 0 (zU A 5 5 0) = T := ⟨_, rfl⟩
    rw [hQ0] at c5 c6
    have c5 : pe = 4294967295 := c5
    have c6 : zKp K M Q0 c := c6
    subst c5
    have hP : zPrs A = (4294967295, zU Q0 5 1 0) := by unfold zPrs; rw [hQ0]; dsimp only; rw [zFx_n (show Q0 5 5 ≠ 0 by rw [c6.1]; omega)]
    have hfar := Hs.far (c := c - 1) (fun j hj => ⟨c2 j (Nat.zero_le _) (by omega), (c3 j (Nat.zero_le _) (by omega)).1⟩) (c - 1) (Nat.le_refl _)
    have hok : ∀ j, j < c → (M j).1 = true := fun j hj => c2 j (Nat.zero_le _) hj
    have hsep : ∀ j, j + 1 < c → (M j).2.1 < A 5 1 ∧ zSg A (M j).2.1 = 59 := fun j hj => c3 j (Nat.zero_le _) hj
    rw [if_pos (hok 0 c1)] at eC
    obtain ⟨L1, e1⟩ := mCsL_good Hs hS mRn0_20 mRn0_0 e17 (c := c) (c - 1) 0 1 61 L0 (by omega) (fun j _ hj => hok j hj) (fun j _ hj => hsep j hj) c4 (by omega)
    rw [e1] at eC
    obtain ⟨Q, hQ⟩ : ∃ Q, zU Q0 5 1 0 = Q := ⟨_, rfl⟩
    rw [hQ] at hP
    rw [hP] at hro
    have hro : ∀ a b, a ≠ 5 → a ≠ 7 → a ≠ 8 → a ≠ 9 → Q a b = A a b := hro
    have q51 : Q 5 1 = 0 := by rw [← hQ]; exact zU_s
    have q55 : Q 5 5 = c := by rw [← hQ, zU_j (by decide)]; exact c6.1
    have kp : zKp K M Q c := c6.same (by rw [← hQ]; exact zU_j (by decide)) (fun a b h => by rw [← hQ]; exact zU_o (by omega))
    obtain ⟨X, hX⟩ : ∃ X, zU (mRd (mRn0 B) (A 5 1) 0 L1) 12 20 1 = X := ⟨_, rfl⟩
    obtain ⟨Qs, hQs⟩ : ∃ Qs, zScCp Q 41 25 = Qs := ⟨_, rfl⟩
    have so : ∀ a b, a < 41 ∨ 57 ≤ a → Qs a b = Q a b := fun a b h => by rw [← hQs]; exact zScCp_o (by omega)
    have xAf : zAft B X := hX ▸ zAft.rd.u (by decide)
    have x13 : ∀ b, X 13 b = B 13 b := fun b => by rw [← hX, zU_o (by decide), mRd_at (by decide) (by decide), c13]
    have Ts : zTie Qs 25 (X 13) := T.same (fun a b h => (so a b (by omega)).trans (hro a b (by omega) (by omega) (by omega) (by omega))) (fun k _ => x13 k)
    have Gs : zGd Qs 25 := G.same (fun a b h => (so a b (by omega)).trans (hro a b (by omega) (by omega) (by omega) (by omega)))
    have T4 : zTie Q 25 (B 13) := T.same (B' := B) (fun a b h => hro a b (by omega) (by omega) (by omega) (by omega)) (fun _ _ => rfl)
    have G4 : zGd Q 25 := G.same (fun a b h => hro a b (by omega) (by omega) (by omega) (by omega))
    have T41 : zTie Qs 41 (B 13) := hQs ▸ T4.cp (Or.inr (by decide))
    have G41 : zGd Qs 41 := hQs ▸ G4.cp (Or.inr (by decide))
    have kps : zKp K M Qs c := kp.same (so 5 5 (by decide)) (fun a b h => so a b (by omega))
    have xS : mS X = zSg A := by
      rw [← hS]; funext q; unfold mS
      rw [← hX, zU_j (by decide), zU_o (by decide), mRd_12 (by decide) (by decide), mRd_at (by decide) (by decide)]
    have x20 : X 12 20 = 1 := by rw [← hX]; exact zU_s
    have x17 : X 12 17 = A 5 1 := by rw [← hX, zU_j (by decide), mRd_12 (by decide) (by decide)]; exact e17
    have x00 : X 12 0 = 0 := by rw [← hX, zU_j (by decide), mRd_12 (by decide) (by decide)]; exact mRn0_0
    have e2 : mRn1 B = mCs X := by unfold mRn1; rw [eC, hX]
    have hsn : Qs 26 0 = A 26 0 := (so _ _ (by decide)).trans (hro _ _ (by decide) (by decide) (by decide) (by decide))
    have hst : Qs 25 4 = A 25 4 := (so _ _ (by decide)).trans (hro _ _ (by decide) (by decide) (by decide) (by decide))
    have eZ : zRunC Q (A 26 0) (A 25 4) = zRunL (c - 1 + 1) 0 (Qs 26 0) (Qs 25 4) Qs := by unfold zRunC; rw [q55, hQs, hsn, hst, show c - 1 + 1 = c from by omega]
    have e19 : (mCs (mRn0 B)).2 12 19 = 0 := by
      rw [eC]
      show mRd (mRn0 B) (A 5 1) 0 L1 12 19 = 0
      exact mRd_g19
    have eM : mRun B = mEnd (mRn2 B) (mRn1 B).1 := by unfold mRun; rw [if_pos e19]
    have hch := H.ch
    have hXiv := mCs_iv (S := X) (mNow.nw (mNow_row (fun b _ => x13 b) H.1.mn)) ⟨by rw [x17]; exact x2, fun k hk => by rw [xAf.1 18 k (by decide) (by decide) (by decide) (by decide)]; exact hch.2.1 k hk⟩ (hch.2.2.1.same (fun b => xAf.1 21 b (by decide) (by decide) (by decide) (by decide)) (fun b => xAf.1 22 b (by decide) (by decide) (by decide) (by decide))) (by rw [x00]; decide) (by rw [x20]; decide)
    rcases tie_run Hs hok hsep c4 (c - 1) 0 61 Qs X (by omega) (by omega) kps Ts Gs xS (by rw [x20]; decide) x17 x00 with ⟨Qf, R, t1, t2, t3, t4, t5, t6, t7⟩ | ⟨Qf, R, j, j1, j2, t1, t2, t5, t6, t7⟩
    · right
      rw [Hs.1] at t2
      have e3 : mRn1 B = (c, R) := e2.trans t2
      have rAf := xAf.on t7
      have qa : ∀ a b, a < 25 ∨ 57 ≤ a → a ≠ 5 → a ≠ 7 → a ≠ 8 → a ≠ 9 → Qf a b = A a b := fun a b h h5 h7 h8 h9 => (t5 a b (by omega)).trans ((so a b (by omega)).trans (hro a b h5 h7 h8 h9))
      have hR : mIv R := by have h := hXiv.1; rw [← e2, e3] at h; exact h
      have e5 : mRn2 B = R := by unfold mRn2; rw [e3]; exact if_pos t6
      have e4 : mRun B = (c, mPush (if R 12 1 = 8 then zU (zSf R 763) 12 1 7 else R)) := by rw [eM, e5, e3]; unfold mEnd; rw [if_pos t6]
      have far : ∀ a k, 25 ≤ a → a < 25 + 16 → zKeep Qf 41 a k = Qf a k := fun a k h1 h2 => zKeep_o (by omega) (by omega)
      have T5 : zTie Qf 41 (B 13) := T41.far (fun a k h1 h2 => t5 a k (by omega))
      have G5 : zGd Qf 41 := G41.far (fun a k h1 h2 => t5 a k (by omega))
      have H5 : zHt Qf B := Hh.same (B' := B) (qa 1 1 (by decide) (by decide) (by decide) (by decide) (by decide)) (qa 1 2 (by decide) (by decide) (by decide) (by decide) (by decide)) (fun a k h => qa a k (by omega) (by omega) (by omega) (by omega) (by omega)) rfl (fun _ => rfl)
      have f12 : ∀ b, b ≠ 0 → b ≠ 1 → b ≠ 15 → b ≠ 16 → b ≠ 17 → b ≠ 19 → b ≠ 20 → mPush (if R 12 1 = 8 then zU (zSf R 763) 12 1 7 else R) 12 b = B 12 b := fun b b0 b1 b15 b16 b17 b19 b20 => (mPush_o (by decide) (Or.inr b1)).trans (rAf.2.1 b b0 b15 b16 b17 b19 b20)
      have fo : ∀ a b, a ≠ 12 → a ≠ 13 → a ≠ 14 → a ≠ 17 → a ≠ 20 → mPush (if R 12 1 = 8 then zU (zSf R 763) 12 1 7 else R) a b = B a b := fun a b h12 h13 h14 h17 h20 => (mPush_o h17 (Or.inl h12)).trans (rAf.1 a b h12 h13 h14 h20)
      have k0 : ∀ b, b ≠ 1 → zKeep Qf 41 0 b = A 0 b := fun b _ => (zKeep_o (by decide) (by decide)).trans (qa 0 b (by decide) (by decide) (by decide) (by decide) (by decide))
      refine ⟨Q, zKeep Qf 41, hP, eZ.trans t1, ?_, ?_, ?_, fun a b h1 h2 => (zKeep_o (by omega) (by omega)).trans (qa a b (by omega) (by omega) (by omega) (by omega) (by omega))⟩
      · rw [e4]
        show c = _
        rw [zKeep_o (by decide) (by decide), t5 _ _ (by decide)]; exact kps.1.symm
      · rw [e4]
        dsimp only
        exact (mPush_o (by decide) (Or.inr (by decide))).trans t6
      · rw [e4]
        dsimp only
        refine ⟨⟨(t3.far far).row (fun k _ => mPush_o (a := 13) (by decide) (Or.inl (by decide))), t4.far far, tie_pushG (A := Qf) (B := B) (b := 41) (V := B 13) (by decide) T5 G5 H5 (fun _ _ _ => rfl) (rAf.2.1 1 (by decide) (by decide) (by decide) (by decide) (by decide) (by decide)) rAf.2.2.2 (fun k => rAf.1 17 k (by decide) (by decide) (by decide) (by decide)), (hR.1.dd).row (fun k _ => mPush_o (a := 13) (by decide) (Or.inl (by decide))), mPush_dd (D13.row rAf.2.2.2) (fun i hi r hr => ?_) ?_⟩, H.2.put (k0 7 (by decide)) (fun a b h => (zKeep_o (by omega) (by omega)).trans (qa a b (by omega) (by omega) (by omega) (by omega) (by omega))) (f12 4 (by decide) (by decide) (by decide) (by decide) (by decide) (by decide) (by decide)) (f12 18 (by decide) (by decide) (by decide) (by decide) (by decide) (by decide) (by decide)) (fun a b h => fo a b (by omega) (by omega) (by omega) (by omega) (by omega)) (hx0 _ _ ?_ ?_ (fun k => ?_) (fun k => fo 18 k (by decide) (by decide) (by decide) (by decide) (by decide))) ⟨?_, ?_, ?_, ?_⟩⟩
        · show R 17 _ ≤ 1
          rw [rAf.1 17 _ (by decide) (by decide) (by decide) (by decide)]; exact D17 i hi r hr
        · rw [rAf.2.1 1 (by decide) (by decide) (by decide) (by decide) (by decide) (by decide)]; exact H.1.c8
        · rw [zKeep_o (by decide) (by decide), t5 _ _ (by decide), so _ _ (by decide)]; exact q51
        · exact (mPush_o (by decide) (Or.inr (by decide))).trans rAf.2.2.1
        · rw [zKeep_o (by decide) (by decide)]; exact qa 6 k (by decide) (by decide) (by decide) (by decide) (by decide)
        · rw [k0 8 (by decide), f12 2 (by decide) (by decide) (by decide) (by decide) (by decide) (by decide) (by decide)]; exact r1
        · rw [k0 9 (by decide), f12 3 (by decide) (by decide) (by decide) (by decide) (by decide) (by decide) (by decide)]; exact r2
        · rw [k0 8 (by decide)]; exact r3
        · rw [k0 9 (by decide)]; exact r4
    · left
      rw [Hs.1] at t2
      have e3 : mRn1 B = (j + 1, R) := e2.trans t2
      have rAf := xAf.on t7
      have qa : ∀ a b, a < 25 ∨ 57 ≤ a → a ≠ 5 → a ≠ 7 → a ≠ 8 → a ≠ 9 → Qf a b = A a b := fun a b h h5 h7 h8 h9 => (t5 a b (by omega)).trans ((so a b (by omega)).trans (hro a b h5 h7 h8 h9))
      have e5 : mRn2 B = zU (zU R 12 3 j) 12 0 2 := by unfold mRn2; rw [e3]; exact if_neg t6
      have e4 : mRun B = (0, zCp (zU (zU R 12 3 j) 12 0 2) 14 13 109) := by rw [eM, e5]; unfold mEnd; rw [if_neg (by rw [zU_s]; decide)]
      have T5 : zTie Qf 41 (B 13) := T41.far (fun a k h1 h2 => t5 a k (by omega))
      have G5 : zGd Qf 41 := G41.far (fun a k h1 h2 => t5 a k (by omega))
      have f13 : ∀ k, k < 109 → zCp (zU (zU R 12 3 j) 12 0 2) 14 13 109 13 k = B 13 k := fun k hk => by rw [zCp_at hk, zU_o (by decide), zU_o (by decide)]; exact rAf.2.2.2 k hk
      have f12 : ∀ b, b ≠ 0 → b ≠ 3 → b ≠ 15 → b ≠ 16 → b ≠ 17 → b ≠ 19 → b ≠ 20 → zCp (zU (zU R 12 3 j) 12 0 2) 14 13 109 12 b = B 12 b := fun b b0 b3 b15 b16 b17 b19 b20 => by rw [zCp_o (by decide), zU_j b0, zU_j b3]; exact rAf.2.1 b b0 b15 b16 b17 b19 b20
      have fo : ∀ a b, a ≠ 12 → a ≠ 13 → a ≠ 14 → a ≠ 20 → zCp (zU (zU R 12 3 j) 12 0 2) 14 13 109 a b = B a b := fun a b h12 h13 h14 h20 => by rw [zCp_o h13, zU_o h12, zU_o h12]; exact rAf.1 a b h12 h13 h14 h20
      have co : ∀ a b, a ≠ 0 → a < 25 ∨ 57 ≤ a → a ≠ 5 → a ≠ 7 → a ≠ 8 → a ≠ 9 → zU (zScCp Qf 25 41) 0 9 j a b = A a b := fun a b h0 h h5 h7 h8 h9 => by rw [zU_o h0, zScCp_o (by omega)]; exact qa a b h h5 h7 h8 h9
      have c0 : ∀ b, b ≠ 9 → zU (zScCp Qf 25 41) 0 9 j 0 b = A 0 b := fun b h => by rw [zU_j h, zScCp_o (by decide)]; exact qa 0 b (by decide) (by decide) (by decide) (by decide) (by decide)
      have far : ∀ a k, 25 ≤ a → a < 25 + 16 → zU (zScCp Qf 25 41) 0 9 j a k = zScCp Qf 25 41 a k := fun a k h1 h2 => zU_o (by omega)
      refine ⟨Q, j, zScCp Qf 25 41, hP, eZ.trans t1, by omega, ?_, ?_, ?_, fun a b h1 h2 => (zScCp_o (by omega)).trans (qa a b (by omega) (by omega) (by omega) (by omega) (by omega))⟩
      · rw [e4]
      · rw [e4]
        dsimp only
        rw [zCp_o (by decide), zU_s]
      · rw [e4]
        dsimp only
        refine ⟨⟨((T5.cp (b := 25) (Or.inl (by decide))).far far).row f13, (G5.cp (b := 25) (Or.inl (by decide))).far far, Hh.same (co 1 1 (by decide) (by decide) (by decide) (by decide) (by decide) (by decide)) (co 1 2 (by decide) (by decide) (by decide) (by decide) (by decide) (by decide)) (fun a k h => co a k (by omega) (by omega) (by omega) (by omega) (by omega) (by omega)) (f12 1 (by decide) (by decide) (by decide) (by decide) (by decide) (by decide) (by decide)) (fun k => fo 17 k (by decide) (by decide) (by decide) (by decide)), D13.row f13, fun i hi r hr => ?_⟩, H.2.put (c0 7 (by decide)) (fun a b h => co a b (by omega) (by omega) (by omega) (by omega) (by omega) (by omega)) (f12 4 (by decide) (by decide) (by decide) (by decide) (by decide) (by decide) (by decide)) (f12 18 (by decide) (by decide) (by decide) (by decide) (by decide) (by decide) (by decide)) (fun a b h => fo a b (by omega) (by omega) (by omega) (by omega)) (hx0 _ _ ?_ ?_ (fun k => co 6 k (by decide) (by decide) (by decide) (by decide) (by decide) (by decide)) (fun k => fo 18 k (by decide) (by decide) (by decide) (by decide))) ⟨?_, ?_, ?_, ?_⟩⟩
        · show zCp _ 14 13 109 17 _ ≤ 1
          rw [fo 17 _ (by decide) (by decide) (by decide) (by decide)]; exact D17 i hi r hr
        · rw [zU_o (by decide), zScCp_o (by decide), t5 _ _ (by decide), so _ _ (by decide)]; exact q51
        · show zCp _ 14 13 109 12 15 = 0
          rw [zCp_o (by decide), zU_j (by decide), zU_j (by decide)]; exact rAf.2.2.1
        · rw [c0 8 (by decide), f12 2 (by decide) (by decide) (by decide) (by decide) (by decide) (by decide) (by decide)]; exact r1
        · rw [zU_s]
          show j = zCp _ 14 13 109 12 3
          rw [zCp_o (by decide), zU_j (by decide), zU_s]
        · rw [c0 8 (by decide)]; exact r3
        · rw [zU_s]; left; omega
  · -- a fault in the text
    left
    rw [Hs.1] at c4
    obtain ⟨⟨pe, Q0⟩, hQ0⟩ : ∃ T, zRead 60 0 (zU A 5 5 0) = T := ⟨_, rfl⟩
    rw [hQ0] at c4
    have c4 : pe = (M c).2.1 := c4
    have hP : zPrs A = (pe, zU (zFx A Q0) 5 1 0) := by unfold zPrs; rw [hQ0]
    have hfar := Hs.far (c := c) (fun j hj => ⟨(c2 j (Nat.zero_le _) hj).1, (c2 j (Nat.zero_le _) hj).2.1⟩) c (Nat.le_refl _)
    have hle := Hs.le hfar.1
    obtain ⟨c', L1, e1⟩ := mCsL_bad Hs hS mRn0_20 mRn0_0 e17 c3 c 0 1 61 L0 (by omega) (fun j _ hj => c2 j (Nat.zero_le _) hj) (by omega)
    rw [e1, ← c4] at eC
    obtain ⟨Q, hQ⟩ : ∃ Q, zU (zFx A Q0) 5 1 0 = Q := ⟨_, rfl⟩
    rw [hQ] at hP
    rw [hP] at hro
    have hro : ∀ a b, a ≠ 5 → a ≠ 7 → a ≠ 8 → a ≠ 9 → Q a b = A a b := hro
    have q51 : Q 5 1 = 0 := by rw [← hQ]; exact zU_s
    have rAf : zAft B (mRd (mRn0 B) pe 1 L1) := zAft.rd
    have e4 : mRun B = (0, zU (zU (mRd (mRn0 B) pe 1 L1) 12 2 pe) 12 0 1) := by
      unfold mRun
      rw [eC]
      dsimp only
      rw [if_neg (by rw [mRd_g19]; decide), mRd_g16]; rfl
    have f12 : ∀ b, b ≠ 0 → b ≠ 2 → b ≠ 15 → b ≠ 16 → b ≠ 17 → b ≠ 19 → b ≠ 20 → zU (zU (mRd (mRn0 B) pe 1 L1) 12 2 pe) 12 0 1 12 b = B 12 b := fun b b0 b2 b15 b16 b17 b19 b20 => by rw [zU_j b0, zU_j b2]; exact rAf.2.1 b b0 b15 b16 b17 b19 b20
    have fo : ∀ a b, a ≠ 12 → a ≠ 14 → a ≠ 20 → zU (zU (mRd (mRn0 B) pe 1 L1) 12 2 pe) 12 0 1 a b = B a b := fun a b h12 h14 h20 => by rw [zU_o h12, zU_o h12, mRd_at h12 h20, mRn0_o h14 h12]
    have co : ∀ a b, a ≠ 0 → a ≠ 5 → a ≠ 7 → a ≠ 8 → a ≠ 9 → zU Q 0 8 pe a b = A a b := fun a b h0 h5 h7 h8 h9 => by rw [zU_o h0]; exact hro a b h5 h7 h8 h9
    have c0 : ∀ b, b ≠ 8 → zU Q 0 8 pe 0 b = A 0 b := fun b h => by rw [zU_j h]; exact hro 0 b (by decide) (by decide) (by decide) (by decide)
    refine ⟨pe, Q, hP, by omega, by rw [e4], ?_, ?_, fun a b h1 h2 => hro a b (by omega) (by omega) (by omega) (by omega)⟩
    · rw [e4]
      dsimp only
      exact zU_s
    · rw [e4]
      dsimp only
      refine ⟨H.1.same (fun a b h => co a b (by omega) (by omega) (by omega) (by omega) (by omega)) (fun a b h => ?_), H.2.put (c0 7 (by decide)) (fun a b h => co a b (by omega) (by omega) (by omega) (by omega) (by omega)) (f12 4 (by decide) (by decide) (by decide) (by decide) (by decide) (by decide) (by decide)) (f12 18 (by decide) (by decide) (by decide) (by decide) (by decide) (by decide) (by decide)) (fun a b h => fo a b (by omega) (by omega) (by omega)) (hx0 _ _ ?_ ?_ (fun k => co 6 k (by decide) (by decide) (by decide) (by decide) (by decide)) (fun k => fo 18 k (by decide) (by decide) (by decide))) ⟨?_, ?_, ?_, ?_⟩⟩
      · rcases h with ⟨h1, h2⟩ | h | h
        · rw [h1, h2]; exact f12 1 (by decide) (by decide) (by decide) (by decide) (by decide) (by decide) (by decide)
        · exact fo a b (by omega) (by omega) (by omega)
        · exact fo a b (by omega) (by omega) (by omega)
      · rw [zU_o (by decide)]; exact q51
      · show zU _ 12 0 1 12 15 = 0
        rw [zU_j (by decide), zU_j (by decide)]; exact rAf.2.2.1
      · rw [zU_s]
        show pe = zU _ 12 0 1 12 2
        rw [zU_j (by decide), zU_s]
      · rw [c0 9 (by decide), f12 3 (by decide) (by decide) (by decide) (by decide) (by decide) (by decide) (by decide)]; exact r2
      · rw [zU_s]; left; omega
      · rw [c0 9 (by decide)]; exact r4
end RN
