/-! rounds, changes: tied -/
theorem tie_it {A B : zS} {n t k : Nat} (T : zTie A 25 (B 13)) (G : zGd A 25) (hn : A 26 0 = n) (ht : A 25 4 = t) : ∀ m, m ≤ t → (zIt (fun r q => zPass1 n r q) m (k, A)).1 = (zIt (fun r q => mP1 n r q) m (k, B)).1 ∧ zTie (zIt (fun r q => zPass1 n r q) m (k, A)).2 25 ((zIt (fun r q => mP1 n r q) m (k, B)).2 13) ∧ zGd (zIt (fun r q => zPass1 n r q) m (k, A)).2 25 ∧ (zIt (fun r q => zPass1 n r q) m (k, A)).2 26 0 = n ∧ (zIt (fun r q => zPass1 n r q) m (k, A)).2 25 4 = t := by
  intro m
  induction m with
  | zero => intro _; exact ⟨rfl, T, G, hn, ht⟩
  | succ m ih =>
    intro hm
    obtain ⟨i1, i2, i3, i4, i5⟩ := ih (by omega)
    have ht4 : t ≤ 4 := ht ▸ G.2.1
    rw [zIt, zIt]
    obtain ⟨⟨k1, A1⟩, hA⟩ : ∃ q, zIt (fun r q => zPass1 n r q) m (k, A) = q := ⟨_, rfl⟩
    obtain ⟨⟨k2, B1⟩, hB⟩ : ∃ q, zIt (fun r q => mP1 n r q) m (k, B) = q := ⟨_, rfl⟩
    rw [hA] at i1 i2 i3 i4 i5
    rw [hB] at i1 i2
    dsimp only at i1 i2 i3 i4 i5
    rw [hA, hB, ← i1]
    have h := tie_pass1 (r := m) (k := k1) i2 i3 (by omega) (by omega)
    rw [i4] at h
    have hnow := zPass1_now (n := n) (t := t) (r := m) (q := (k1, A1)) (by have := i3.now; rw [i4, i5] at this; exact this) (by omega)
    exact ⟨h.1, h.2.1, h.2.2, hnow.1, hnow.2.2.1⟩
/-! the places of the tie -/
def zL (k : Nat) : Nat × Nat :=
  if k = 0 then (26, 0) else if k < 5 then (25, k + 3) else if k < 17 then (30, k - 5) else if k < 29 then (31, k - 17) else if k < 41 then (27, k - 29) else if k < 61 then (33 + 2 * ((k - 41) / 5), [1, 9, 0, 3, 4].getD ((k - 41) % 5) 0) else (33 + 2 * ((k - 61) / 12) + 1, (k - 61) % 12)
def zLok (k : Nat) : Bool := !(decide (41 ≤ k) && decide (k < 61) && decide ((k - 41) % 5 = 1))
theorem zL_inj0 : ∀ a : Fin 109, ∀ b : Fin 109, zL a.val = zL b.val → a.val = b.val := by decide +kernel
theorem zL_inj {a b : Nat} (ha : a < 109) (hb : b < 109) (h : zL a = zL b) : a = b := zL_inj0 ⟨a, ha⟩ ⟨b, hb⟩ h
theorem zL_hv {e : Nat} (h : e < 12) : zL (5 + e) = (30, e) := by unfold zL; rw [if_neg (by omega), if_neg (by omega), if_pos (by omega)]; congr 1; omega
theorem zL_db {e : Nat} (h : e < 12) : zL (17 + e) = (31, e) := by unfold zL; rw [if_neg (by omega), if_neg (by omega), if_neg (by omega), if_pos (by omega)]; congr 1; omega
theorem zL_lk {e : Nat} (h : e < 12) : zL (29 + e) = (27, e) := by unfold zL; rw [if_neg (by omega), if_neg (by omega), if_neg (by omega), if_neg (by omega), if_pos (by omega)]; congr 1; omega
theorem zL_ru {r j : Nat} (h : r < 4) (hj : j < 5) : zL (41 + 5 * r + j) = (33 + 2 * r, [1, 9, 0, 3, 4].getD j 0) := by
  unfold zL
  rw [if_neg (by omega), if_neg (by omega), if_neg (by omega), if_neg (by omega), if_neg (by omega), if_pos (by omega), show (41 + 5 * r + j - 41) / 5 = r from by omega, show (41 + 5 * r + j - 41) % 5 = j from by omega]
theorem zL_hd {r e : Nat} (h : r < 4) (he : e < 12) : zL (61 + 12 * r + e) = (33 + 2 * r + 1, e) := by
  unfold zL
  rw [if_neg (by omega), if_neg (by omega), if_neg (by omega), if_neg (by omega), if_neg (by omega), if_neg (by omega), show (61 + 12 * r + e - 61) / 12 = r from by omega, show (61 + 12 * r + e - 61) % 12 = e from by omega]
theorem zTie_iff {S : zS} {V : Nat → Nat} : zTie S 25 V ↔ (∀ k, k < 109 → zLok k = true → V k = S (zL k).1 (zL k).2) ∧ ∀ r, r < 4 → r < S 25 4 → V (41 + 5 * r + 1) + S (33 + 2 * r) 2 = 1 := by
  constructor
  · intro T
    obtain ⟨t0, t1, t2, t3, t4, t5, t6, t7⟩ := id T
    refine ⟨fun k hk hok => ?_, fun r hr hrt => (T.r hr).2.1 hrt⟩
    by_cases h5 : k < 5
    · have : k = 0 ∨ k = 1 ∨ k = 2 ∨ k = 3 ∨ k = 4 := by omega
      rcases this with rfl | rfl | rfl | rfl | rfl
      · exact t0
      · exact t1
      · exact t2
      · exact t3
      · exact t4
    · by_cases h17 : k < 17
      · have e : k = 5 + (k - 5) := by omega
        rw [e, zL_hv (by omega)]; exact (T.e (by omega)).1
      · by_cases h29 : k < 29
        · have e : k = 17 + (k - 17) := by omega
          rw [e, zL_db (by omega)]; exact (T.e (by omega)).2.1
        · by_cases h41 : k < 41
          · have e : k = 29 + (k - 29) := by omega
            rw [e, zL_lk (by omega)]; exact (T.e (by omega)).2.2
          · by_cases h61 : k < 61
            · have e : k = 41 + 5 * ((k - 41) / 5) + (k - 41) % 5 := by omega
              have hj : (k - 41) % 5 < 5 := Nat.mod_lt _ (by decide)
              have h1 : ¬ (k - 41) % 5 = 1 := by
                intro h
                unfold zLok at hok
                rw [decide_eq_true (show 41 ≤ k by omega), decide_eq_true h61, decide_eq_true h] at hok
                exact absurd hok (by decide)
              obtain ⟨q0, q1, q2, q3, q4⟩ := T.r (r := (k - 41) / 5) (by omega)
              obtain ⟨j, hje⟩ : ∃ j, (k - 41) % 5 = j := ⟨_, rfl⟩
              rw [e, zL_ru (by omega) hj]
              rw [hje] at hj h1 ⊢
              have : j = 0 ∨ j = 2 ∨ j = 3 ∨ j = 4 := by omega
              rcases this with rfl | rfl | rfl | rfl
              · exact q0
              · exact q2
              · exact q3
              · exact q4
            · have e : k = 61 + 12 * ((k - 61) / 12) + (k - 61) % 12 := by omega
              have hj : (k - 61) % 12 < 12 := Nat.mod_lt _ (by decide)
              rw [e, zL_hd (by omega) hj]
              exact T.h (by omega) hj
  · rintro ⟨h, hd⟩
    have ok : ∀ k, k < 109 → (k < 41 ∨ 61 ≤ k ∨ ¬ (k - 41) % 5 = 1) → zLok k = true := fun k _ hk => by
      unfold zLok
      by_cases h1 : 41 ≤ k
      · by_cases h2 : k < 61
        · rw [decide_eq_false (show ¬ (k - 41) % 5 = 1 by omega)]; simp
        · rw [decide_eq_false h2]; simp
      · rw [decide_eq_false h1]; simp
    refine ⟨h 0 (by decide) rfl, h 1 (by decide) rfl, h 2 (by decide) rfl, h 3 (by decide) rfl, h 4 (by decide) rfl, fun e he => ?_, fun r hr => ?_, fun r hr e he => ?_⟩
    · have a := h (5 + e) (by omega) (ok _ (by omega) (by omega))
      have b := h (17 + e) (by omega) (ok _ (by omega) (by omega))
      have c := h (29 + e) (by omega) (ok _ (by omega) (by omega))
      rw [zL_hv he] at a
      rw [zL_db he] at b
      rw [zL_lk he] at c
      exact ⟨a, b, c⟩
    · have a := h (41 + 5 * r + 0) (by omega) (ok _ (by omega) (by omega))
      have b := h (41 + 5 * r + 2) (by omega) (ok _ (by omega) (by omega))
      have c := h (41 + 5 * r + 3) (by omega) (ok _ (by omega) (by omega))
      have d := h (41 + 5 * r + 4) (by omega) (ok _ (by omega) (by omega))
      rw [zL_ru hr (by decide)] at a b c d
      exact ⟨a, hd r hr, b, c, d⟩
    · have a := h (61 + 12 * r + e) (by omega) (ok _ (by omega) (by omega))
      rw [zL_hd hr he] at a
      exact a
theorem zL_alive0 : ∀ k : Fin 109, ∀ r : Fin 4, zL k.val ≠ (33 + 2 * r.val, 2) := by decide +kernel
/-- a tied place written on both sides -/
theorem zTie.put {S : zS} {V : Nat → Nat} {k v : Nat} (T : zTie S 25 V) (hk : k < 109) (h1 : k ≠ 1) (hok : k < 41 ∨ 61 ≤ k ∨ ¬ (k - 41) % 5 = 1) {a b : Nat} (hl : zL k = (a, b)) : zTie (zU S a b v) 25 (mUpd V k v) := by
  rw [zTie_iff] at T ⊢
  refine ⟨fun j hj hjk => ?_, fun r hr hrt => ?_⟩
  · unfold mUpd
    by_cases e : j = k
    · subst e; rw [if_pos rfl, hl, zU_s]
    · rw [if_neg e, T.1 j hj hjk]
      have hne : ¬ ((zL j).1 = a ∧ (zL j).2 = b) := fun h => e (zL_inj hj hk (by rw [hl]; exact Prod.ext h.1 h.2))
      unfold zU; rw [if_neg hne]
  · have e4 : zU S a b v 25 4 = S 25 4 := by
      have hne : ¬ (25 = a ∧ 4 = b) := fun h => h1 (zL_inj hk (by decide) (by rw [hl, h.1.symm, h.2.symm]; rfl))
      unfold zU; rw [if_neg hne]
    have e2 : zU S a b v (33 + 2 * r) 2 = S (33 + 2 * r) 2 := by
      have hne : ¬ (33 + 2 * r = a ∧ 2 = b) := fun h => zL_alive0 ⟨k, hk⟩ ⟨r, hr⟩ (by show zL k = _; rw [hl, h.1.symm, h.2.symm])
      unfold zU; rw [if_neg hne]
    rw [e4] at hrt
    unfold mUpd
    rw [e2, if_neg (by omega)]
    exact T.2 r hr hrt
theorem zTie.putA {S : zS} {V : Nat → Nat} {r x y : Nat} (T : zTie S 25 V) (hr : r < 4) (hxy : r < S 25 4 → y + x = 1) : zTie (zU S (33 + 2 * r) 2 x) 25 (mUpd V (41 + 5 * r + 1) y) := by
  rw [zTie_iff] at T ⊢
  refine ⟨fun j hj hjk => ?_, fun q hq hqt => ?_⟩
  · have e : j ≠ 41 + 5 * r + 1 := fun e => by
      subst e
      unfold zLok at hjk
      rw [decide_eq_true (show 41 ≤ 41 + 5 * r + 1 by omega), decide_eq_true (show 41 + 5 * r + 1 < 61 by omega), decide_eq_true (show (41 + 5 * r + 1 - 41) % 5 = 1 by omega)] at hjk
      exact absurd hjk (by decide)
    unfold mUpd
    rw [if_neg e, T.1 j hj hjk]
    have hne : ¬ ((zL j).1 = 33 + 2 * r ∧ (zL j).2 = 2) := fun h => zL_alive0 ⟨j, hj⟩ ⟨r, hr⟩ (Prod.ext h.1 h.2)
    unfold zU; rw [if_neg hne]
  · have e4 : zU S (33 + 2 * r) 2 x 25 4 = S 25 4 := zU_o (by omega)
    rw [e4] at hqt
    unfold mUpd
    by_cases e : q = r
    · subst e; rw [if_pos rfl, zU_s]; exact hxy hqt
    · rw [if_neg (by omega), zU_o (by omega)]; exact T.2 q hq hqt
theorem zTie.putT {S : zS} {V : Nat → Nat} {t : Nat} (T : zTie S 25 V) (ht : S 25 4 = t) (h4 : t < 4) (hd : V (41 + 5 * t + 1) + S (33 + 2 * t) 2 = 1) : zTie (zU S 25 4 (t + 1)) 25 (mUpd V 1 (t + 1)) := by
  rw [zTie_iff] at T ⊢
  refine ⟨fun j hj hjk => ?_, fun q hq hqt => ?_⟩
  · unfold mUpd
    by_cases e : j = 1
    · subst e; rw [if_pos rfl]; exact zU_s.symm
    · rw [if_neg e, T.1 j hj hjk]
      have hne : ¬ ((zL j).1 = 25 ∧ (zL j).2 = 4) := fun h => e (zL_inj hj (by decide) (by rw [show zL 1 = (25, 4) from rfl]; exact Prod.ext h.1 h.2))
      unfold zU; rw [if_neg hne]
  · rw [zU_s] at hqt
    unfold mUpd
    rw [if_neg (by omega), zU_o (by omega)]
    by_cases e : q = t
    · subst e; exact hd
    · exact T.2 q hq (by omega)
theorem zU13 {B : zS} {k v : Nat} : zU B 13 k v 13 = mUpd (B 13) k v := by
  funext j; unfold zU mUpd
  by_cases h : j = k
  · rw [if_pos ⟨rfl, h⟩, if_pos h]
  · rw [if_neg (fun q => h q.2), if_neg h]
theorem zTie.adv {A B : zS} (T : zTie A 25 (B 13)) : zTie (zU A 25 5 (A 25 5 + 1)) 25 (zU B 13 2 (B 13 2 + 1) 13) := by
  have e : B 13 2 = A 25 5 := T.2.2.1
  rw [zU13, e]
  exact T.put (by decide) (by decide) (by decide) rfl
theorem zGd.u25 {A : zS} {k v : Nat} (G : zGd A 25) (hk : k ≠ 4) : zGd (zU A 25 k v) 25 := by
  obtain ⟨a0, a1, a2, a3, a4, a5, a6⟩ := G
  have o : ∀ a b, a ≠ 25 → zU A 25 k v a b = A a b := fun a b h => zU_o h
  have e4 : zU A 25 k v 25 4 = A 25 4 := zU_j (fun h => hk h.symm)
  refine ⟨a0, by rw [e4]; exact a1, a2, a3, a4, fun r hr => ?_, fun r hr => ?_⟩
  · exact zRb.same (a5 r hr) (fun j => o _ _ (by omega))
  · rw [e4] at hr
    rw [o _ _ (by omega), o _ _ (by omega)]; exact a6 r hr
theorem tie_round {A B : zS} {n t k : Nat} (T : zTie A 25 (B 13)) (G : zGd A 25) (hn : A 26 0 = n) (ht : A 25 4 = t) : (zRound n t (k, A)).1 = (mRnd n t (k, B)).1 ∧ zTie (zRound n t (k, A)).2 25 ((mRnd n t (k, B)).2 13) ∧ zGd (zRound n t (k, A)).2 25 ∧ (zRound n t (k, A)).2 26 0 = n ∧ (zRound n t (k, A)).2 25 4 = t := by
  obtain ⟨i1, i2, i3, i4, i5⟩ := tie_it (k := k) T G hn ht t (Nat.le_refl _)
  exact ⟨i1, i2.adv, i3.u25 (by decide), by unfold zRound; dsimp only; rw [zU_o (by decide)]; exact i4, by unfold zRound; dsimp only; rw [zU_j (by decide)]; exact i5⟩
theorem tie_rounds {A B : zS} {n t : Nat} (T : zTie A 25 (B 13)) (G : zGd A 25) (hn : A 26 0 = n) (ht : A 25 4 = t) : ∀ m, (zPassR n t m A).1 = (mRds n t m B).1 ∧ zTie (zPassR n t m A).2 25 ((mRds n t m B).2 13) ∧ zGd (zPassR n t m A).2 25 ∧ (zPassR n t m A).2 26 0 = n ∧ (zPassR n t m A).2 25 4 = t := by
  intro m
  induction m with
  | zero => exact ⟨rfl, T, G, hn, ht⟩
  | succ m ih =>
    have eA : zPassR n t (m + 1) A = zRound n t (zPassR n t m A) := rfl
    have eB : mRds n t (m + 1) B = mRnd n t (mRds n t m B) := rfl
    rw [eA, eB]
    obtain ⟨i1, i2, i3, i4, i5⟩ := ih
    obtain ⟨⟨k1, A1⟩, hA⟩ : ∃ q, zPassR n t m A = q := ⟨_, rfl⟩
    obtain ⟨⟨k2, B1⟩, hB⟩ : ∃ q, mRds n t m B = q := ⟨_, rfl⟩
    rw [hA] at i1 i2 i3 i4 i5 ⊢
    rw [hB] at i1 i2 ⊢
    dsimp only at i1 i2 i3 i4 i5
    subst i1
    exact tie_round i2 i3 i4 i5
