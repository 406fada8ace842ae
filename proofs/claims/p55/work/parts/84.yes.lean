/-! a change that is made -/
def zsum (n : Nat) (f : Nat → Nat) : Nat := zIt (fun e s => s + f e) n 0
theorem zsum_s {n : Nat} {f : Nat → Nat} : zsum (n + 1) f = zsum n f + f n := rfl
theorem zsum_congr {n : Nat} {f g : Nat → Nat} (h : ∀ i, i < n → f i = g i) : zsum n f = zsum n g := by
  induction n with
  | zero => rfl
  | succ n ih => rw [zsum_s, zsum_s, ih (fun i hi => h i (by omega)), h n (by omega)]
theorem zsum_upd {n i : Nat} {f g : Nat → Nat} (hi : i < n) (h : ∀ j, j < n → j ≠ i → g j = f j) : zsum n g + f i = zsum n f + g i := by
  induction n with
  | zero => omega
  | succ n ih =>
    rw [zsum_s, zsum_s]
    by_cases e : i = n
    · subst e
      rw [zsum_congr (f := g) (g := f) (fun j hj => h j (by omega) (by omega))]; omega
    · have := ih (by omega) (fun j hj hne => h j (by omega) hne)
      rw [h n (by omega) (fun q => e q.symm)]; omega
theorem zsum_ext {n m : Nat} {f : Nat → Nat} (h : n ≤ m) (h0 : ∀ i, n ≤ i → i < m → f i = 0) : zsum m f = zsum n f := by
  induction m with
  | zero => have : n = 0 := by omega
            rw [this]
  | succ m ih =>
    by_cases e : n = m + 1
    · rw [e]
    · rw [zsum_s, ih (by omega) (fun i hi hm => h0 i hi (by omega)), h0 m (by omega) (by omega)]; rfl
theorem zsum_ge {n i : Nat} {f : Nat → Nat} (hi : i < n) : f i ≤ zsum n f := by
  induction n with
  | zero => omega
  | succ n ih =>
    rw [zsum_s]
    by_cases e : i = n
    · subst e; omega
    · have := ih (by omega); omega
theorem zpop_bit0 : ∀ i : Fin 12, zpop (1 * 2 ^ i.val) = 1 := by decide +kernel
theorem zpop_bit {i : Nat} (h : i < 12) : zpop (1 * 2 ^ i) = 1 := zpop_bit0 ⟨i, h⟩
theorem zBitT {i k : Nat} : (1 * 2 ^ i).testBit k = decide (i = k) := by rw [Nat.one_mul, Nat.testBit_two_pow]
theorem zOrXor {a i : Nat} (h : a.testBit i = false) : a ||| 1 * 2 ^ i = a ^^^ 1 * 2 ^ i := by
  apply Nat.eq_of_testBit_eq
  intro k
  rw [Nat.testBit_or, Nat.testBit_xor, zBitT]
  by_cases e : i = k
  · subst e; rw [h, decide_eq_true rfl]; rfl
  · rw [decide_eq_false e]; cases a.testBit k <;> rfl
theorem zAndXor {a i : Nat} (ha : a < 4096) (h : a.testBit i = true) : a &&& (1 * 2 ^ i ^^^ 4294967295) = a ^^^ 1 * 2 ^ i := by
  have hi : i < 12 := by
    rcases Nat.lt_or_ge i 12 with h1 | h1
    · exact h1
    · rw [zBit_hi ha h1] at h; cases h
  refine zEq12 (zAnd_lt ha) (zXor_lt ha hi) (fun k hk => ?_)
  rw [zAndNot (by omega), Nat.testBit_xor, zBitT]
  by_cases e : i = k
  · subst e; rw [h, decide_eq_true rfl]; rfl
  · rw [decide_eq_false e]; cases a.testBit k <;> rfl
theorem zpop_add {a i : Nat} (hi : i < 12) (h : a.testBit i = false) : zpop (a ||| 1 * 2 ^ i) = zpop a + 1 := by
  rw [zpop_or, zpop_bit hi]
  rw [zAnd0]
  rintro k ⟨h1, h2⟩
  rw [zBitT] at h2
  have e := of_decide_eq_true h2
  subst e
  rw [h1] at h; cases h
theorem zpop_sub {a i : Nat} (ha : a < 4096) (h : a.testBit i = true) : zpop (a &&& (1 * 2 ^ i ^^^ 4294967295)) + 1 = zpop a := by
  have hi : i < 12 := by
    rcases Nat.lt_or_ge i 12 with h1 | h1
    · exact h1
    · rw [zBit_hi ha h1] at h; cases h
  have h1 : (a &&& (1 * 2 ^ i ^^^ 4294967295)).testBit i = false := by
    rw [zAndNot (by omega), zBitT, decide_eq_true rfl, h]; rfl
  rw [← zpop_add hi h1]
  congr 1
  refine zEq12 (zOr_lt (zAnd_lt ha) (zBit_lt hi)) ha (fun k hk => ?_)
  rw [Nat.testBit_or, zAndNot (by omega), zBitT]
  by_cases e : i = k
  · subst e; rw [h, decide_eq_true rfl]; rfl
  · rw [decide_eq_false e]; cases a.testBit k <;> rfl
theorem mUpd_comm {V : Nat → Nat} {i j v w : Nat} (h : i ≠ j) : mUpd (mUpd V i v) j w = mUpd (mUpd V j w) i v := by
  funext b; unfold mUpd
  by_cases h1 : b = j
  · rw [if_pos h1, if_neg (by omega), if_pos h1]
  · rw [if_neg h1]
    by_cases h2 : b = i
    · rw [if_pos h2, if_pos h2]
    · rw [if_neg h2, if_neg h2, if_neg h1]
theorem zL_links0 : ∀ k : Fin 109, zL k.val ≠ (26, 1) := by decide +kernel
theorem zTie.links {S : zS} {V : Nat → Nat} {v : Nat} (T : zTie S 25 V) : zTie (zU S 26 1 v) 25 V := by
  rw [zTie_iff] at T ⊢
  refine ⟨fun j hj hjk => ?_, fun q hq hqt => ?_⟩
  · rw [T.1 j hj hjk]
    have hne : ¬ ((zL j).1 = 26 ∧ (zL j).2 = 1) := fun h => zL_links0 ⟨j, hj⟩ (Prod.ext h.1 h.2)
    unfold zU; rw [if_neg hne]
  · rw [zU_o (by omega)]
    rw [zU_o (by omega)] at hqt
    exact T.2 q hq hqt
section YES
variable {A B : zS} {n t x y : Nat}
/-- the number of links -/
theorem tie_links (T : zTie A 25 (B 13)) (G : zGd A 25) (hn : A 26 0 = n) : mLinks B n = A 26 1 % 4294967296 := by
  have hz : n ≤ 12 := hn ▸ G.1
  have h : A 26 1 % 4294967296 * 2 = zsum 12 (fun e => zpop (A 27 e)) := G.2.2.2.2.1
  have e1 : mLsum B n = zsum n (fun e => zpop (A 27 e)) := zsum_congr (fun i hi => by rw [(T.e (by omega)).2.2])
  have e2 : zsum 12 (fun e => zpop (A 27 e)) = zsum n (fun e => zpop (A 27 e)) := zsum_ext hz (fun i hi h12 => by
    have h0 : A 27 i = 0 := by
      apply Nat.eq_of_testBit_eq
      intro k
      rw [Nat.zero_testBit]
      cases hk : (A 27 i).testBit k with
      | false => rfl
      | true =>
        have : i < A 26 0 := (G.2.2.2.1 i k h12 hk).1
        omega
    show zpop (A 27 i) = 0
    rw [h0]; exact zpop_0)
  unfold mLinks
  rw [e1, ← e2, ← h]; omega
theorem tie_add1 (T : zTie A 25 (B 13)) (G : zGd A 25) (hn : A 26 0 = n) (h : zrAdd n x y = 0) : mAdds B n x y = (n, zU (zU (zU B 13 (5 + n) x) 13 (17 + n) y) 13 0 (n + 1)) ∧ zTie (zAddL A n x y) 25 ((zU (zU (zU B 13 (5 + n) x) 13 (17 + n) y) 13 0 (n + 1)) 13) ∧ zGd (zAddL A n x y) 25 := by
  have h1 : x < 4 ∧ y ≤ 9 := Classical.byContradiction (fun hc => by unfold zrAdd at h; rw [if_neg hc] at h; cases h)
  have h2 : n < 12 := Classical.byContradiction (fun hc => by unfold zrAdd at h; rw [if_pos h1, if_neg hc] at h; cases h)
  refine ⟨?_, ?_, ?_⟩
  · unfold mAdds; rw [if_pos h1, if_neg (by omega)]
  · rw [zU13, zU13, zU13]
    exact ((T.put (by omega) (by omega) (by omega) (zL_hv h2)).put (by omega) (by omega) (by omega) (zL_db h2)).put (by omega) (by omega) (by omega) rfl
  · exact ((G.put30 h1.1).put31 h1.2).putN ((zU_o (by decide)).trans ((zU_o (by decide)).trans hn)) h2
theorem tie_move1 (T : zTie A 25 (B 13)) (G : zGd A 25) (hn : A 26 0 = n) (h : zrMove A n x y = 0) : mMoves B n x y = (A 30 x, zU B 13 (5 + x) y) ∧ zTie (zMoveL A x y) 25 ((zU B 13 (5 + x) y) 13) ∧ zGd (zMoveL A x y) 25 := by
  have hz : n ≤ 12 := hn ▸ G.1
  have h1 : x < n := Classical.byContradiction (fun hc => by unfold zrMove at h; rw [if_neg hc] at h; cases h)
  have h2 : y < 4 := Classical.byContradiction (fun hc => by unfold zrMove at h; rw [if_pos h1, if_neg hc] at h; cases h)
  have h3 : ¬ A 30 x = y := fun hc => by unfold zrMove at h; rw [if_pos h1, if_pos h2, if_pos hc] at h; cases h
  have e := (T.e (e := x) (by omega)).1
  refine ⟨?_, ?_, G.put30 h2⟩
  · unfold mMoves; rw [if_pos h1, if_pos h2, e, if_neg h3]
  · rw [zU13]; exact T.put (by omega) (by omega) (by omega) (zL_hv (by omega))
theorem tie_sil1 (T : zTie A 25 (B 13)) (G : zGd A 25) (ht : A 25 4 = t) (h : zrSil A t x = 0) : mDenies B t x = (zpop (A (33 + 2 * x) 3), zU B 13 (41 + 5 * x + 1) 1) ∧ zTie (zU A (33 + 2 * x) 2 0) 25 ((zU B 13 (41 + 5 * x + 1) 1) 13) ∧ zGd (zU A (33 + 2 * x) 2 0) 25 := by
  have ht4 : t ≤ 4 := ht ▸ G.2.1
  have h1 : x < t := Classical.byContradiction (fun hc => by unfold zrSil at h; rw [if_neg hc] at h; cases h)
  have h3 : ¬ A (33 + 2 * x) 2 = 0 := fun hc => by unfold zrSil at h; rw [if_pos h1, if_pos hc] at h; cases h
  have hr := T.r (r := x) (by omega)
  have hd := hr.2.1 (by omega)
  have hb := (G.r (r := x) (by omega)).2.1
  refine ⟨?_, ?_, G.putS (by omega) (Or.inr ⟨rfl, by decide⟩)⟩
  · unfold mDenies; rw [if_pos h1, if_neg (by omega), hr.2.2.2.1]
  · rw [zU13]; exact T.putA (by omega) (fun _ => rfl)
theorem tie_rev1 (T : zTie A 25 (B 13)) (G : zGd A 25) (ht : A 25 4 = t) (h : zrRev A t x y = 0) : mAnswers B t x y = (A (33 + 2 * x) 1, zU (zU B 13 (41 + 5 * x + 1) 0) 13 (41 + 5 * x + 0) y) ∧ zTie (zU (zU A (33 + 2 * x) 2 1) (33 + 2 * x) 1 y) 25 ((zU (zU B 13 (41 + 5 * x + 1) 0) 13 (41 + 5 * x + 0) y) 13) ∧ zGd (zU (zU A (33 + 2 * x) 2 1) (33 + 2 * x) 1 y) 25 := by
  have ht4 : t ≤ 4 := ht ▸ G.2.1
  have h1 : x < t := Classical.byContradiction (fun hc => by unfold zrRev at h; rw [if_neg hc] at h; cases h)
  have h2 : y ≤ 9 := Classical.byContradiction (fun hc => by unfold zrRev at h; rw [if_pos h1, if_neg hc] at h; cases h)
  have h3 : A (33 + 2 * x) 2 = 0 := Classical.byContradiction (fun hc => by unfold zrRev at h; rw [if_pos h1, if_pos h2, if_neg hc] at h; cases h)
  have hr := T.r (r := x) (by omega)
  have hd := hr.2.1 (by omega)
  refine ⟨?_, ?_, (G.putS (by omega) (Or.inr ⟨rfl, by decide⟩)).putS (by omega) (Or.inl ⟨rfl, h2⟩)⟩
  · unfold mAnswers; rw [if_pos h1, if_pos h2, if_neg (by omega), hr.1]
  · rw [zU13, zU13]
    exact (T.putA (by omega) (fun _ => rfl)).put (by omega) (by omega) (by omega) (zL_ru (by omega) (by decide))
end YES
