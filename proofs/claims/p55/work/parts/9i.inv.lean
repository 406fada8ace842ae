/-! class and reference tied as a whole -/
def mDd (V : Nat → Nat) : Prop := ∀ r, r < 4 → V (41 + 5 * r + 1) ≤ 1
/-- the text, the numbers of the last failures -/
def zTx2 (A B : zS) : Prop := A 5 1 = B 12 15 ∧ A 5 1 ≤ 60 ∧ ∀ k, k < 60 → A 6 k = B 18 k ∧ A 6 k < 65536
def zEr (A B : zS) : Prop := A 0 8 = B 12 2 ∧ A 0 9 = B 12 3 ∧ (A 0 8 ≤ 60 ∨ A 0 8 = 4294967295) ∧ (A 0 9 ≤ 60 ∨ A 0 9 = 4294967295)
/-- the scene and the past -/
def zK (A B : zS) : Prop := zTie A 25 (B 13) ∧ zGd A 25 ∧ zHt A B ∧ mDd (B 13) ∧ ∀ j, j < 8 → mDd (fun k => B 17 (j * 109 + k))
/-- the state put by, the line, the text -/
def zJ (A B : zS) : Prop := zSn A B ∧ mDd (B 15) ∧ zSB A ∧ zLn A B ∧ (∀ i, B 19 i < 65536) ∧ zTx2 A B ∧ mWds B ∧ zEr A B
def zInv (A B : zS) : Prop := zK A B ∧ zJ A B
/-- what each of them reads -/
def zClK (A A' : zS) : Prop := ∀ a b, (a = 1 ∧ (b = 1 ∨ b = 2)) ∨ (25 ≤ a ∧ a < 41 ∧ a ≠ 28 ∧ a ≠ 29) ∨ 73 ≤ a → A' a b = A a b
def zMdK (B B' : zS) : Prop := ∀ a b, (a = 12 ∧ b = 1) ∨ (a = 13 ∧ b < 109) ∨ a = 17 → B' a b = B a b
def zClJ (A A' : zS) : Prop := ∀ a b, (a = 0 ∧ (b = 7 ∨ b = 8 ∨ b = 9)) ∨ (a = 5 ∧ b = 1) ∨ a = 6 ∨ a = 10 ∨ a = 11 ∨ (57 ≤ a ∧ a < 73) → A' a b = A a b
def zMdJ (B B' : zS) : Prop := ∀ a b, (a = 12 ∧ (b = 2 ∨ b = 3 ∨ b = 4 ∨ b = 15 ∨ b = 18)) ∨ a = 15 ∨ a = 18 ∨ a = 19 ∨ a = 21 ∨ a = 22 → B' a b = B a b
section IV
variable {A B A' B' : zS} {n t : Nat}
theorem mDd.row {V W : Nat → Nat} (h : mDd V) (hv : ∀ k, k < 109 → W k = V k) : mDd W := fun r hr => by rw [hv _ (by omega)]; exact h r hr
theorem zHt.same (H : zHt A B) (h1 : A' 1 1 = A 1 1) (h2 : A' 1 2 = A 1 2) (h3 : ∀ a k, 73 ≤ a → A' a k = A a k) (h4 : B' 12 1 = B 12 1) (h5 : ∀ k, B' 17 k = B 17 k) : zHt A' B' := by
  obtain ⟨e1, e2, e3, e4⟩ := H
  refine ⟨by rw [h1, h4]; exact e1, by rw [h4]; exact e2, by rw [h2]; exact e3, fun j hj => ?_⟩
  rw [h4] at hj ⊢
  rw [h2]
  have f : ∀ a k, zSlot (A 1 2) (B 12 1) j ≤ a → a < zSlot (A 1 2) (B 12 1) j + 16 → A' a k = A a k := fun a k h6 h7 => by
    unfold zSlot at h6
    exact h3 a k (by omega)
  exact ⟨((e4 j hj).1.far f).row (fun k _ => h5 _), (e4 j hj).2.far f⟩
theorem zTie.same (T : zTie A 25 (B 13)) (hA : zClK A A') (hB : ∀ k, k < 109 → B' 13 k = B 13 k) : zTie A' 25 (B' 13) :=
  (T.scene (hA _ _ (by omega)) (fun k _ _ => hA _ _ (by omega)) (fun e _ => ⟨hA _ _ (by omega), hA _ _ (by omega), hA _ _ (by omega)⟩) (fun r hr => ⟨fun k _ => hA _ _ (by omega), fun k _ => hA _ _ (by omega)⟩)).row (fun k hk => hB k hk)
theorem zGd.same (G : zGd A 25) (hA : zClK A A') : zGd A' 25 :=
  G.scene (fun k _ => hA _ _ (by omega)) (fun k _ _ => hA _ _ (by omega)) (fun e _ => ⟨hA _ _ (by omega), hA _ _ (by omega), hA _ _ (by omega)⟩) (fun r hr k _ => hA _ _ (by omega))
theorem zK.same (H : zK A B) (hA : zClK A A') (hB : zMdK B B') : zK A' B' := by
  obtain ⟨T, G, Hh, D, P⟩ := H
  refine ⟨T.same hA (fun k hk => hB _ _ (by omega)), G.same hA, Hh.same (hA _ _ (by omega)) (hA _ _ (by omega)) (fun a k h => hA _ _ (by omega)) (hB _ _ (by omega)) (fun k => hB _ _ (by omega)), fun r hr => by rw [hB _ _ (by omega)]; exact D r hr, fun j hj r hr => ?_⟩
  show B' 17 _ ≤ 1
  rw [hB _ _ (by omega)]; exact P j hj r hr
theorem zJ.same (H : zJ A B) (hA : zClJ A A') (hB : zMdJ B B') : zJ A' B' := by
  obtain ⟨⟨s1, s2, s3⟩, D, ⟨b1, b2, b3, b4⟩, ⟨l1, l2⟩, c, ⟨x1, x2, x3⟩, ⟨w1, w2⟩, r1, r2, r3, r4⟩ := H
  have f : ∀ a k, 57 ≤ a → a < 57 + 16 → A' a k = A a k := fun a k h1 h2 => hA _ _ (by omega)
  refine ⟨⟨by rw [hA _ _ (by omega), hB _ _ (by omega)]; exact s1, by rw [hA _ _ (by omega)]; exact s2, fun h => ?_⟩, fun r hr => by rw [hB _ _ (by omega)]; exact D r hr, ⟨by rw [hA _ _ (by omega)]; exact b1, by rw [hA _ _ (by omega)]; exact b2, by rw [hA _ _ (by omega), hA _ _ (by omega)]; exact b3, fun i => by rw [hA _ _ (by omega)]; exact b4 i⟩, ⟨by rw [hA _ _ (by omega), hB _ _ (by omega)]; exact l1, fun i hi => ?_⟩, fun i => by rw [hB _ _ (by omega)]; exact c i, ⟨by rw [hA _ _ (by omega), hB _ _ (by omega)]; exact x1, by rw [hA _ _ (by omega)]; exact x2, fun k hk => by rw [hA _ _ (by omega), hB _ _ (by omega)]; exact x3 k hk⟩, ⟨fun k hk => by rw [hB _ _ (by omega)]; exact w1 k hk, fun k hk => by rw [hB _ _ (by omega)]; exact w2 k hk⟩, by rw [hA _ _ (by omega), hB _ _ (by omega)]; exact r1, by rw [hA _ _ (by omega), hB _ _ (by omega)]; exact r2, by rw [hA _ _ (by omega)]; exact r3, by rw [hA _ _ (by omega)]; exact r4⟩
  · rw [hA _ _ (by omega)] at h
    exact ⟨((s3 h).1.far f).row (fun k _ => hB _ _ (by omega)), (s3 h).2.far f⟩
  · rw [hA _ _ (by omega)] at hi
    rw [hA _ _ (by omega), hB _ _ (by omega)]; exact l2 i hi
theorem zJ.put (H : zJ A B) (h7 : A' 0 7 = A 0 7) (hA : ∀ a b, a = 10 ∨ a = 11 ∨ (57 ≤ a ∧ a < 73) → A' a b = A a b) (h4 : B' 12 4 = B 12 4) (h18 : B' 12 18 = B 12 18) (hB : ∀ a b, a = 15 ∨ a = 19 ∨ a = 21 ∨ a = 22 → B' a b = B a b) (X : zTx2 A' B') (R : zEr A' B') : zJ A' B' := by
  obtain ⟨⟨s1, s2, s3⟩, D, ⟨b1, b2, b3, b4⟩, ⟨l1, l2⟩, c, -, ⟨w1, w2⟩, -⟩ := H
  have f : ∀ a k, 57 ≤ a → a < 57 + 16 → A' a k = A a k := fun a k h1 h2 => hA _ _ (by omega)
  refine ⟨⟨by rw [h7, h4]; exact s1, by rw [h7]; exact s2, fun h => ?_⟩, fun r hr => by rw [hB _ _ (by omega)]; exact D r hr, ⟨by rw [hA _ _ (by omega)]; exact b1, by rw [hA _ _ (by omega)]; exact b2, by rw [hA _ _ (by omega), hA _ _ (by omega)]; exact b3, fun i => by rw [hA _ _ (by omega)]; exact b4 i⟩, ⟨by rw [hA _ _ (by omega), h18]; exact l1, fun i hi => ?_⟩, fun i => by rw [hB _ _ (by omega)]; exact c i, X, ⟨fun k hk => by rw [hB _ _ (by omega)]; exact w1 k hk, fun k hk => by rw [hB _ _ (by omega)]; exact w2 k hk⟩, R⟩
  · rw [h7] at h
    exact ⟨((s3 h).1.far f).row (fun k _ => hB _ _ (by omega)), (s3 h).2.far f⟩
  · rw [hA _ _ (by omega)] at hi
    rw [hA _ _ (by omega), hB _ _ (by omega)]; exact l2 i hi
theorem zInv.same (H : zInv A B) (h1 : zClK A A') (h2 : zClJ A A') (h3 : zMdK B B') (h4 : zMdJ B B') : zInv A' B' := ⟨H.1.same h1 h3, H.2.same h2 h4⟩
/-- a side's own memory alone has changed -/
theorem zInv.of (H : zInv A B) (hA : ∀ a b, a < 12 ∨ 25 ≤ a → A' a b = A a b) (hB : ∀ a b, 12 ≤ a → a < 23 → B' a b = B a b) : zInv A' B' :=
  H.same (fun a b h => hA a b (by omega)) (fun a b h => hA a b (by omega)) (fun a b h => hB a b (by omega) (by omega)) (fun a b h => hB a b (by omega) (by omega))
/-- what the reference's contracts want -/
theorem zK.mn (H : zK A B) : mNow B (A 26 0) (A 25 4) := by
  obtain ⟨T, G, -, D, -⟩ := H
  refine ⟨T.1, G.1, T.2.1, G.2.1, fun e he => ?_, fun r hr => ?_⟩
  · obtain ⟨e1, e2, e3⟩ := T.e he
    obtain ⟨g1, g2, g3⟩ := G.2.2.1 e he
    rw [e1, e2, e3]; exact ⟨g2, g3, g1⟩
  · obtain ⟨e1, -, -, e3, e4⟩ := T.r hr
    obtain ⟨g1, -, g3, g4⟩ := G.r hr
    rw [e1, e3, e4]; exact ⟨g1, D r hr, g3, g4⟩
theorem mNow.dd (h : mNow B n t) : mDd (B 13) := fun r hr => (h.2.2.2.2.2 r hr).2.1
theorem mNw.dd (h : mNw B) : mDd (B 13) := mNow.dd (n := B 13 0) (t := B 13 1) h
theorem zK.c8 (H : zK A B) : B 12 1 ≤ 8 := H.2.2.1.2.1
theorem mDd.seg {V : Nat → Nat} {j : Nat} (h : ∀ r, r < 4 → V (j * 109 + (41 + 5 * r + 1)) ≤ 1) : mDd (fun k => V (j * 109 + k)) := h
/-- a state pushed -/
theorem mPush_o {a b : Nat} (h : a ≠ 17) (h2 : a ≠ 12 ∨ b ≠ 1) : mPush (if B 12 1 = 8 then zU (zSf B 763) 12 1 7 else B) a b = B a b := by
  unfold mPush
  have e : ∀ Q : zS, zU (zSeg Q (Q 12 1) 109) 12 1 (Q 12 1 + 1) a b = Q a b := fun Q => by
    rcases h2 with h2 | h2
    · rw [zU_o h2, zSeg_o h]
    · rw [zU_j h2, zSeg_o h]
  rw [e]
  split
  · rcases h2 with h2 | h2
    · rw [zU_o h2, zSf_o h]
    · rw [zU_j h2, zSf_o h]
  · rfl
theorem mPush_dd (h14 : mDd (B 14)) (h17 : ∀ j, j < 8 → mDd (fun k => B 17 (j * 109 + k))) (hc : B 12 1 ≤ 8) : ∀ j, j < 8 → mDd (fun k => mPush (if B 12 1 = 8 then zU (zSf B 763) 12 1 7 else B) 17 (j * 109 + k)) := by
  intro j hj r hr
  dsimp only
  by_cases h8 : B 12 1 = 8
  · rw [if_pos h8]
    unfold mPush
    rw [zU_s, zU_o (by decide)]
    unfold zSeg
    by_cases h : 763 ≤ j * 109 + (41 + 5 * r + 1)
    · rw [if_pos ⟨rfl, by omega, by omega⟩, zU_o (by decide), zSf_o (by decide), show j * 109 + (41 + 5 * r + 1) - 7 * 109 = 41 + 5 * r + 1 from by omega]
      exact h14 r hr
    · rw [if_neg (by omega), zU_o (by decide)]
      unfold zSf
      rw [if_pos ⟨rfl, by omega⟩, show j * 109 + (41 + 5 * r + 1) + 109 = (j + 1) * 109 + (41 + 5 * r + 1) from by omega]
      exact h17 (j + 1) (by omega) r hr
  · rw [if_neg h8]
    unfold mPush
    rw [zU_o (by decide)]
    unfold zSeg
    obtain ⟨c, hcc⟩ : ∃ c, B 12 1 = c := ⟨_, rfl⟩
    rw [hcc] at hc h8 ⊢
    by_cases h : j = c
    · subst h
      rw [if_pos ⟨rfl, by omega, by omega⟩, show j * 109 + (41 + 5 * r + 1) - j * 109 = 41 + 5 * r + 1 from by omega]
      exact h14 r hr
    · rw [if_neg (by omega)]
      exact h17 j hj r hr
/-- a change asked of both -/
theorem mChg_o {w x y a b : Nat} (h13 : a ≠ 13) (h14 : a ≠ 14) (h17 : a ≠ 17) (h12 : a ≠ 12 ∨ (b ≠ 0 ∧ b ≠ 1)) : (mChg B n t w x y).2 a b = B a b := by
  have ho : (mDoes (mBeg B) n t w x y).2 a b = B a b := by rw [mDoes_o h13 (by omega), mBeg_oo h14 (by omega)]
  unfold mChg mEnd
  split
  · exact (mPush_o h17 (by omega)).trans ho
  · exact (zCp_o h13).trans ho
theorem mChg_dd {w x y : Nat} (H : mNow B n t) (h17 : ∀ j, j < 8 → mDd (fun k => B 17 (j * 109 + k))) (hc : B 12 1 ≤ 8) : mDd ((mChg B n t w x y).2 13) ∧ ∀ j, j < 8 → mDd (fun k => (mChg B n t w x y).2 17 (j * 109 + k)) := by
  have hb : mNow (mBeg B) n t := mNow_row (fun b _ => mBeg_13) H
  have hd := mDoes_nw (w := w) (x := x) (y := y) hb
  obtain ⟨⟨v, D⟩, hD⟩ : ∃ T, mDoes (mBeg B) n t w x y = T := ⟨_, rfl⟩
  have o : ∀ a b, a ≠ 13 → a ≠ 12 ∨ b ≠ 0 → D a b = mBeg B a b := fun a b h1 h2 => by
    have := mDoes_o (S := mBeg B) (n := n) (t := t) (w := w) (x := x) (y := y) h1 h2
    rw [hD] at this; exact this
  have d14 : ∀ k, k < 109 → D 14 k = B 13 k := fun k hk => by rw [o _ _ (by decide) (by omega), mBeg_14 hk]
  have d17 : ∀ k, D 17 k = B 17 k := fun k => by rw [o _ _ (by decide) (by omega), mBeg_oo (by decide) (by omega)]
  have d12 : D 12 1 = B 12 1 := by rw [o _ _ (by decide) (by omega), mBeg_oo (by decide) (by omega)]
  rw [hD] at hd
  have q14 : mDd (D 14) := (mNow.dd H).row d14
  have q17 : ∀ j, j < 8 → mDd (fun k => D 17 (j * 109 + k)) := fun j hj r hr => by show D 17 _ ≤ 1; rw [d17]; exact h17 j hj r hr
  unfold mChg mEnd
  rw [hD]
  dsimp only
  split
  · refine ⟨fun r hr => ?_, mPush_dd q14 q17 (by rw [d12]; exact hc)⟩
    show mPush (if D 12 1 = 8 then zU (zSf D 763) 12 1 7 else D) 13 _ ≤ 1
    rw [mPush_o (by decide) (Or.inl (by decide))]; exact hd.dd r hr
  · refine ⟨fun r hr => ?_, fun j hj r hr => ?_⟩
    · show zCp D 14 13 109 13 _ ≤ 1
      rw [zCp_at (by omega)]; exact q14 r hr
    · show zCp D 14 13 109 17 _ ≤ 1
      rw [zCp_o (by decide)]; exact q17 j hj r hr
theorem zChg_o {k x y a b : Nat} (ht4 : t ≤ 4) (h0 : zRef A n t k x y = 0) (h : a < 25 ∨ 41 ≤ a) (h1 : a ≠ 1) (h2 : a < 73) : (zChg A n t k x y).2 a b = A a b := by
  unfold zChg
  rw [zPerf_o h ht4 (by rw [zRef_keep ht4]; exact h0), zKeep_o h1 h2]
theorem zInv.made (H : zInv A B) {k x y : Nat} (h : zRef A (A 26 0) (A 25 4) k x y = 0) : nI (zChg A (A 26 0) (A 25 4) k x y).1 = nI (mChg B (A 26 0) (A 25 4) (min k 8) x y).1 ∧ zInv (zChg A (A 26 0) (A 25 4) k x y).2 (mChg B (A 26 0) (A 25 4) (min k 8) x y).2 ∧ (mChg B (A 26 0) (A 25 4) (min k 8) x y).2 12 0 = 0 := by
  obtain ⟨T, G, Hh, D, P⟩ := id H.1
  obtain ⟨y1, y2, y3, y4, y5⟩ := tie_made T G Hh rfl rfl h
  have d := mChg_dd (w := min k 8) (x := x) (y := y) H.1.mn P H.1.c8
  exact ⟨y1, ⟨⟨y2, y3, y4, d.1, d.2⟩, H.2.same (fun a b h2 => zChg_o G.2.1 h (by omega) (by omega) (by omega)) (fun a b h2 => mChg_o (by omega) (by omega) (by omega) (by omega))⟩, y5⟩
theorem zInv.refused (H : zInv A B) {k x y : Nat} (h : ¬ zRef A (A 26 0) (A 25 4) k x y = 0) : (mChg B (A 26 0) (A 25 4) (min k 8) x y).1 = 0 ∧ (mChg B (A 26 0) (A 25 4) (min k 8) x y).2 12 0 = zErr (min k 8) (zRef A (A 26 0) (A 25 4) k x y) ∧ zInv A (mChg B (A 26 0) (A 25 4) (min k 8) x y).2 := by
  obtain ⟨T, G, Hh, D, P⟩ := id H.1
  obtain ⟨y1, y2, y3, y4⟩ := tie_refused T G Hh rfl rfl h (zErr_ne h)
  have d := mChg_dd (w := min k 8) (x := x) (y := y) H.1.mn P H.1.c8
  exact ⟨y1, y2, ⟨y3, G, y4, d.1, d.2⟩, H.2.same (fun a b _ => rfl) (fun a b h2 => mChg_o (by omega) (by omega) (by omega) (by omega))⟩
end IV
