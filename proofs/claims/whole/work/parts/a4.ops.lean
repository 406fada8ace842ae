/-! one call, of both sides -/
theorem zBfs_bd {S : zS} {g n : Nat} : ∀ (k st e q : Nat), st + k ≤ 4294967295 → zBfs S g n k st e q < 2 ^ 32 := by
  intro k
  induction k with
  | zero => intro st e q h; rw [zBfs]; decide
  | succ k ih =>
    intro st e q h
    rw [zBfs]
    split
    · exact ih _ _ _ (by omega)
    · omega
theorem zBfs_lt {S : zS} {g n y : Nat} (hz : n ≤ 12) : zBfs S g n n 0 (1 * 2 ^ y) (1 * 2 ^ y) < 2 ^ 32 := zBfs_bd _ _ _ _ (by omega)
theorem zFind_bd {p : Nat → Bool} {k : Nat} (h : k ≤ 100) : zFind p k 0 < 2 ^ 32 := by
  rcases zFind_range (p := p) k 0 with h1 | ⟨-, h1⟩ <;> omega
section OP
variable {l : Launch} {G : zG} {S : zS} {J : Int64} {E : UInt64}
def zOpW (l : Launch) (G : zG) (S : zS) (J : Int64) (E : UInt64) (mL : zM) (hh : zHh) (asL : List Value) (mM : zM) (asM : List Value) : Prop := ∃ (k w d1 d2 mc ms : Nat) (S1 S2 : zS) (J1 : Int64), (d1 ≤ 30 ∧ d2 ≤ 30 ∧ mc ≤ 25 ∧ ms ≤ 850) ∧ wCR l G mL hh d1 mc ms asL S J E (some (zi k)) S1 J1 E ∧ nCR l G mM d2 0 0 asM S1 J1 E (some (zi w)) S2 J1 E ∧ S2 12 0 = k ∧ k < 5 ∧ (k = 0 → J1 = (nI w).toInt64) ∧ zInv S2 S2
def zOpB (l : Launch) (G : zG) (S : zS) (J : Int64) (E : UInt64) (mL : zM) (hh : zHh) (asL : List Value) (mM : zM) (asM : List Value) : Prop := ∃ (k d1 d2 mc ms : Nat) (q : Bool) (S1 S2 : zS) (J1 : Int64), (d1 ≤ 30 ∧ d2 ≤ 30 ∧ mc ≤ 25 ∧ ms ≤ 850) ∧ wCR l G mL hh d1 mc ms asL S J E (some (zi k)) S1 J1 E ∧ nCR l G mM d2 0 0 asM S1 J1 E (some (zi q.toNat)) S2 J1 E ∧ S2 12 0 = k ∧ k < 5 ∧ (k = 0 → J1 = if q = true then 1 else 0) ∧ zInv S2 S2
def zOpS (l : Launch) (G : zG) (S : zS) (J : Int64) (E : UInt64) (mX mM : zM) : Prop := ∃ (v w d1 d2 : Nat) (S1 S2 : zS), (d1 ≤ 30 ∧ d2 ≤ 30) ∧ nCR l G mX d1 0 0 [.ref 0] S J E (some (zi v)) S1 J E ∧ nCR l G mM d2 0 0 [.ref 12] S1 J E (some (zi w)) S2 J E ∧ nI v = nI w ∧ zInv S2 S2
/-- a call that changes scratch rows alone -/
theorem zInv.q (H : zInv S S) {S1 : zS} (hA : ∀ a b, a ≠ 3 → a ≠ 4 → a ≠ 28 → a ≠ 29 → S1 a b = S a b) : zInv S S1 ∧ ∀ c, zInv (zU S1 12 0 c) (zU S1 12 0 c) := by
  refine ⟨H.of (fun _ _ _ => rfl) (fun a b h1 h2 => hA a b (by omega) (by omega) (by omega) (by omega)), fun c => H.same (fun a b h => ?_) (fun a b h => ?_) (fun a b h => ?_) (fun a b h => ?_)⟩
  · rw [zU_o (by omega)]; exact hA a b (by omega) (by omega) (by omega) (by omega)
  · rw [zU_o (by omega)]; exact hA a b (by omega) (by omega) (by omega) (by omega)
  · by_cases h12 : a = 12
    · subst h12; rw [zU_j (by omega)]; exact hA _ b (by omega) (by omega) (by omega) (by omega)
    · rw [zU_o h12]; exact hA a b (by omega) (by omega) (by omega) (by omega)
  · by_cases h12 : a = 12
    · subst h12; rw [zU_j (by omega)]; exact hA _ b (by omega) (by omega) (by omega) (by omega)
    · rw [zU_o h12]; exact hA a b (by omega) (by omega) (by omega) (by omega)
variable {mL mM : zM} {hh : zHh} {asL asM : List Value}
theorem zOpW.ret (H : zInv S S) {v w d1 d2 c : Nat} {S1 : zS} (hA : ∀ a b, a ≠ 3 → a ≠ 4 → a ≠ 28 → a ≠ 29 → S1 a b = S a b) (h1 : wCR l G mL hh d1 0 0 asL S J E (some (zi 0)) S1 (nI v).toInt64 E) (h2 : nCR l G mM d2 0 0 asM S1 (nI v).toInt64 E (some (zi w)) (zU S1 12 0 c) (nI v).toInt64 E) (hd : d1 ≤ 30 ∧ d2 ≤ 30) (hc : c = 0) (hv : nI v = nI w) : zOpW l G S J E mL hh asL mM asM :=
  ⟨0, w, d1, d2, 0, 0, S1, _, _, ⟨hd.1, hd.2, by decide, by decide⟩, h1, h2, by rw [zU_s]; exact hc, by decide, fun _ => by rw [hv], (H.q hA).2 c⟩
theorem zOpW.thr (H : zInv S S) {k w d1 d2 c : Nat} {S1 : zS} (hA : ∀ a b, a ≠ 3 → a ≠ 4 → a ≠ 28 → a ≠ 29 → S1 a b = S a b) (h1 : wCR l G mL hh d1 1 6 asL S J E (some (zi k)) S1 J E) (h2 : nCR l G mM d2 0 0 asM S1 J E (some (zi w)) (zU S1 12 0 c) J E) (hd : d1 ≤ 30 ∧ d2 ≤ 30) (hc : c = k) (hk : 0 < k ∧ k < 5) : zOpW l G S J E mL hh asL mM asM :=
  ⟨k, w, d1, d2, 1, 6, S1, _, _, ⟨hd.1, hd.2, by decide, by decide⟩, h1, h2, by rw [zU_s]; exact hc, hk.2, fun h => absurd h (by omega), (H.q hA).2 c⟩
theorem zOpB.ret (H : zInv S S) {p q : Bool} {d1 d2 c : Nat} (h1 : wCR l G mL hh d1 0 0 asL S J E (some (zi 0)) S (if p = true then 1 else 0) E) (h2 : ∀ J1, nCR l G mM d2 0 0 asM S J1 E (some (zi q.toNat)) (zU S 12 0 c) J1 E) (hd : d1 ≤ 30 ∧ d2 ≤ 30) (hc : c = 0) (hv : p = q) : zOpB l G S J E mL hh asL mM asM :=
  ⟨0, d1, d2, 0, 0, q, S, _, _, ⟨hd.1, hd.2, by decide, by decide⟩, h1, h2 _, by rw [zU_s]; exact hc, by decide, fun _ => by rw [hv], (H.q (fun _ _ _ _ _ _ => rfl)).2 c⟩
theorem zOpB.thr (H : zInv S S) {k d1 d2 c : Nat} {q : Bool} (h1 : wCR l G mL hh d1 1 6 asL S J E (some (zi k)) S J E) (h2 : nCR l G mM d2 0 0 asM S J E (some (zi q.toNat)) (zU S 12 0 c) J E) (hd : d1 ≤ 30 ∧ d2 ≤ 30) (hc : c = k) (hk : 0 < k ∧ k < 5) : zOpB l G S J E mL hh asL mM asM :=
  ⟨k, d1, d2, 1, 6, q, S, _, _, ⟨hd.1, hd.2, by decide, by decide⟩, h1, h2, by rw [zU_s]; exact hc, hk.2, fun h => absurd h (by omega), (H.q (fun _ _ _ _ _ _ => rfl)).2 c⟩
theorem zOpS.ret {mX : zM} (H : zInv S S) {v w d1 d2 c : Nat} {S1 : zS} (hA : ∀ a b, a ≠ 3 → a ≠ 4 → a ≠ 28 → a ≠ 29 → S1 a b = S a b) (h1 : nCR l G mX d1 0 0 [.ref 0] S J E (some (zi v)) S1 J E) (h2 : nCR l G mM d2 0 0 [.ref 12] S1 J E (some (zi w)) (zU S1 12 0 c) J E) (hd : d1 ≤ 30 ∧ d2 ≤ 30) (hv : nI v = nI w) : zOpS l G S J E mX mM :=
  ⟨v, w, d1, d2, S1, _, hd, h1, h2, hv, (H.q hA).2 c⟩
/-- a change asked -/
theorem zInv.chg (H : zInv S S) {k x y : Nat} (h0 : zRef S (S 26 0) (S 25 4) k x y = 0) : mNow (zChg S (S 26 0) (S 25 4) k x y).2 (S 26 0) (S 25 4) ∧ (zChg S (S 26 0) (S 25 4) k x y).2 12 1 ≤ 8 ∧ nI (zChg S (S 26 0) (S 25 4) k x y).1 = nI (mChg (zChg S (S 26 0) (S 25 4) k x y).2 (S 26 0) (S 25 4) (min k 8) x y).1 ∧ (mChg (zChg S (S 26 0) (S 25 4) k x y).2 (S 26 0) (S 25 4) (min k 8) x y).2 12 0 = 0 ∧ zInv (mChg (zChg S (S 26 0) (S 25 4) k x y).2 (S 26 0) (S 25 4) (min k 8) x y).2 (mChg (zChg S (S 26 0) (S 25 4) k x y).2 (S 26 0) (S 25 4) (min k 8) x y).2 := by
  have ht4 : S 25 4 ≤ 4 := H.1.2.1.2.1
  have H1 : zInv S (zChg S (S 26 0) (S 25 4) k x y).2 := H.of (fun _ _ _ => rfl) (fun a b h1 h2 => zChg_o ht4 h0 (by omega) (by omega) (by omega))
  obtain ⟨y1, y2, y3⟩ := H1.made h0
  exact ⟨H1.1.mn, H1.1.c8, y1, y3, y2.of (fun a b h => mChg_o (by omega) (by omega) (by omega) (by omega)) (fun _ _ _ _ => rfl)⟩
theorem zInv.nochg (H : zInv S S) {k x y : Nat} (h0 : ¬ zRef S (S 26 0) (S 25 4) k x y = 0) : (mChg S (S 26 0) (S 25 4) (min k 8) x y).2 12 0 = zErr (min k 8) (zRef S (S 26 0) (S 25 4) k x y) ∧ zInv (mChg S (S 26 0) (S 25 4) (min k 8) x y).2 (mChg S (S 26 0) (S 25 4) (min k 8) x y).2 := by
  obtain ⟨-, y2, y3⟩ := H.refused h0
  exact ⟨y2, y3.of (fun a b h => mChg_o (by omega) (by omega) (by omega) (by omega)) (fun _ _ _ _ => rfl)⟩
theorem zOpW.chg (H : zInv S S) {k x y d1 d2 : Nat} (h0 : zRef S (S 26 0) (S 25 4) k x y = 0 → wCR l G mL hh d1 0 0 asL S J E (some (zi 0)) (zChg S (S 26 0) (S 25 4) k x y).2 (nI (zChg S (S 26 0) (S 25 4) k x y).1).toInt64 E) (h1 : ¬ zRef S (S 26 0) (S 25 4) k x y = 0 → wCR l G mL hh d1 1 6 asL S J E (some (zi (zErr (min k 8) (zRef S (S 26 0) (S 25 4) k x y)))) S J E ∧ zErr (min k 8) (zRef S (S 26 0) (S 25 4) k x y) < 5) (h2 : ∀ (Q : zS) (J1 : Int64), mNow Q (S 26 0) (S 25 4) → Q 12 1 ≤ 8 → nCR l G mM d2 0 0 asM Q J1 E (some (zi (mChg Q (S 26 0) (S 25 4) (min k 8) x y).1)) (mChg Q (S 26 0) (S 25 4) (min k 8) x y).2 J1 E) (hd : d1 ≤ 30 ∧ d2 ≤ 30) : zOpW l G S J E mL hh asL mM asM := by
  by_cases h : zRef S (S 26 0) (S 25 4) k x y = 0
  · obtain ⟨e1, e2, e3, e4, e5⟩ := H.chg h
    exact ⟨0, _, d1, d2, 0, 0, _, _, _, ⟨hd.1, hd.2, by decide, by decide⟩, h0 h, h2 _ _ e1 e2, e4, by decide, fun _ => by rw [e3], e5⟩
  · obtain ⟨e1, e2⟩ := H.nochg h
    obtain ⟨g1, g2⟩ := h1 h
    exact ⟨_, _, d1, d2, 1, 6, S, _, _, ⟨hd.1, hd.2, by decide, by decide⟩, g1, h2 S J H.1.mn H.1.c8, e1, g2, fun q => absurd q (zErr_ne h), e2⟩
theorem zOpB.chg (H : zInv S S) {k x y d1 d2 : Nat} (h0 : zRef S (S 26 0) (S 25 4) k x y = 0 → wCR l G mL hh d1 0 0 asL S J E (some (zi 0)) (zChg S (S 26 0) (S 25 4) k x y).2 (if decide ((zChg S (S 26 0) (S 25 4) k x y).1 = 1) = true then 1 else 0) E) (h1 : ¬ zRef S (S 26 0) (S 25 4) k x y = 0 → wCR l G mL hh d1 1 6 asL S J E (some (zi (zErr (min k 8) (zRef S (S 26 0) (S 25 4) k x y)))) S J E ∧ zErr (min k 8) (zRef S (S 26 0) (S 25 4) k x y) < 5) (h2 : ∀ (Q : zS) (J1 : Int64), mNow Q (S 26 0) (S 25 4) → Q 12 1 ≤ 8 → nCR l G mM d2 0 0 asM Q J1 E (some (zi (decide ((mChg Q (S 26 0) (S 25 4) (min k 8) x y).1 = 1)).toNat)) (mChg Q (S 26 0) (S 25 4) (min k 8) x y).2 J1 E) (hz : ∀ Q : zS, (zChg S (S 26 0) (S 25 4) k x y).1 ≤ 1 ∧ (mChg Q (S 26 0) (S 25 4) (min k 8) x y).1 ≤ 1) (hd : d1 ≤ 30 ∧ d2 ≤ 30) : zOpB l G S J E mL hh asL mM asM := by
  by_cases h : zRef S (S 26 0) (S 25 4) k x y = 0
  · obtain ⟨e1, e2, e3, e4, e5⟩ := H.chg h
    obtain ⟨b1, b2⟩ := hz (zChg S (S 26 0) (S 25 4) k x y).2
    have e : (zChg S (S 26 0) (S 25 4) k x y).1 = (mChg (zChg S (S 26 0) (S 25 4) k x y).2 (S 26 0) (S 25 4) (min k 8) x y).1 := by
      revert e3 b1 b2
      generalize (zChg S (S 26 0) (S 25 4) k x y).1 = u
      generalize (mChg (zChg S (S 26 0) (S 25 4) k x y).2 (S 26 0) (S 25 4) (min k 8) x y).1 = v
      intro e3 b1 b2
      rcases (show (u = 0 ∨ u = 1) ∧ (v = 0 ∨ v = 1) by omega) with ⟨rfl | rfl, rfl | rfl⟩ <;> first | rfl | (exact absurd e3 (by decide))
    exact ⟨0, d1, d2, 0, 0, _, _, _, _, ⟨hd.1, hd.2, by decide, by decide⟩, h0 h, h2 _ _ e1 e2, e4, by decide, fun _ => by rw [← e], e5⟩
  · obtain ⟨e1, e2⟩ := H.nochg h
    obtain ⟨g1, g2⟩ := h1 h
    exact ⟨_, d1, d2, 1, 6, _, S, _, _, ⟨hd.1, hd.2, by decide, by decide⟩, g1, h2 S J H.1.mn H.1.c8, e1, g2, fun q => absurd q (zErr_ne h), e2⟩

set_option maxHeartbeats 2000000 in
theorem op_hive (hl : l.stackTraces = false) (H : zInv S S) {x : Nat} (hx : x < 2 ^ 32) : zOpW l G S J E mL_hive hhL_hive [.ref 0, zi x, .ref 23] mX6_hive [.ref 12, zi x] := by
  obtain ⟨T, Gd, Hh, Dd, Pp⟩ := id H.1
  have hw := Gd.now
  have hm := H.1.mn
  have hz : S 26 0 ≤ 12 := Gd.1
  have ht4 : S 25 4 ≤ 4 := Gd.2.1
  by_cases h : x < S 26 0
  · exact zOpW.ret H (fun _ _ _ _ _ _ => rfl) (rL_hive hl (c_X5_hive hl hw hx h)) (c_X6_hive hl hm hx) ⟨by decide, by decide⟩ (if_pos h) (by rw [if_pos h, (T.e (show x < 12 by omega)).1])
  · exact zOpW.thr H (fun _ _ _ _ _ _ => rfl) (tL_hive_1 hl (t1_X5_hive hl hw hx h)) (c_X6_hive hl hm hx) ⟨by decide, by decide⟩ (if_neg h) (by decide)
set_option maxHeartbeats 2000000 in
theorem op_doubt (hl : l.stackTraces = false) (H : zInv S S) {x : Nat} (hx : x < 2 ^ 32) : zOpW l G S J E mL_doubt hhL_doubt [.ref 0, zi x, .ref 23] mX6_doubt [.ref 12, zi x] := by
  obtain ⟨T, Gd, Hh, Dd, Pp⟩ := id H.1
  have hw := Gd.now
  have hm := H.1.mn
  have hz : S 26 0 ≤ 12 := Gd.1
  have ht4 : S 25 4 ≤ 4 := Gd.2.1
  by_cases h : x < S 26 0
  · exact zOpW.ret H (fun _ _ _ _ _ _ => rfl) (rL_doubt hl (c_X5_doubt hl hw hx h)) (c_X6_doubt hl hm hx) ⟨by decide, by decide⟩ (if_pos h) (by rw [if_pos h, (T.e (show x < 12 by omega)).2.1])
  · exact zOpW.thr H (fun _ _ _ _ _ _ => rfl) (tL_doubt_1 hl (t1_X5_doubt hl hw hx h)) (c_X6_doubt hl hm hx) ⟨by decide, by decide⟩ (if_neg h) (by decide)
set_option maxHeartbeats 2000000 in
theorem op_neighbourCount (hl : l.stackTraces = false) (H : zInv S S) {x : Nat} (hx : x < 2 ^ 32) : zOpW l G S J E mL_neighbourCount hhL_neighbourCount [.ref 0, zi x, .ref 23] mX6_neighbourCount [.ref 12, zi x] := by
  obtain ⟨T, Gd, Hh, Dd, Pp⟩ := id H.1
  have hw := Gd.now
  have hm := H.1.mn
  have hz : S 26 0 ≤ 12 := Gd.1
  have ht4 : S 25 4 ≤ 4 := Gd.2.1
  by_cases h : x < S 26 0
  · exact zOpW.ret H (fun _ _ _ _ _ _ => rfl) (rL_neighbourCount hl (c_X5_neighbourCount hl hw hx h)) (c_X6_neighbourCount hl hm hx) ⟨by decide, by decide⟩ (if_pos h) (by rw [if_pos h, (T.e (show x < 12 by omega)).2.2])
  · exact zOpW.thr H (fun _ _ _ _ _ _ => rfl) (tL_neighbourCount_1 hl (t1_X5_neighbourCount hl hw hx h)) (c_X6_neighbourCount hl hm hx) ⟨by decide, by decide⟩ (if_neg h) (by decide)
set_option maxHeartbeats 2000000 in
theorem op_strength (hl : l.stackTraces = false) (H : zInv S S) {x : Nat} (hx : x < 2 ^ 32) : zOpW l G S J E mL_strength hhL_strength [.ref 0, zi x, .ref 23] mX6_strength [.ref 12, zi x] := by
  obtain ⟨T, Gd, Hh, Dd, Pp⟩ := id H.1
  have hw := Gd.now
  have hm := H.1.mn
  have hz : S 26 0 ≤ 12 := Gd.1
  have ht4 : S 25 4 ≤ 4 := Gd.2.1
  by_cases h : x < S 25 4
  · exact zOpW.ret H (fun _ _ _ _ _ _ => rfl) (rL_strength hl (c_X5_strength hl hw hx h)) (c_X6_strength hl hm hx) ⟨by decide, by decide⟩ (if_pos h) (by rw [if_pos h, (T.r (show x < 4 by omega)).1])
  · exact zOpW.thr H (fun _ _ _ _ _ _ => rfl) (tL_strength_1 hl (t1_X5_strength hl hw hx h)) (c_X6_strength hl hm hx) ⟨by decide, by decide⟩ (if_neg h) (by decide)
set_option maxHeartbeats 2000000 in
theorem op_starter (hl : l.stackTraces = false) (H : zInv S S) {x : Nat} (hx : x < 2 ^ 32) : zOpW l G S J E mL_starter hhL_starter [.ref 0, zi x, .ref 23] mX6_starter [.ref 12, zi x] := by
  obtain ⟨T, Gd, Hh, Dd, Pp⟩ := id H.1
  have hw := Gd.now
  have hm := H.1.mn
  have hz : S 26 0 ≤ 12 := Gd.1
  have ht4 : S 25 4 ≤ 4 := Gd.2.1
  by_cases h : x < S 25 4
  · exact zOpW.ret H (fun _ _ _ _ _ _ => rfl) (rL_starter hl (c_X5_starter hl hw hx h)) (c_X6_starter hl hm hx) ⟨by decide, by decide⟩ (if_pos h) (by rw [if_pos h, (T.r (show x < 4 by omega)).2.2.1])
  · exact zOpW.thr H (fun _ _ _ _ _ _ => rfl) (tL_starter_1 hl (t1_X5_starter hl hw hx h)) (c_X6_starter hl hm hx) ⟨by decide, by decide⟩ (if_neg h) (by decide)
set_option maxHeartbeats 2000000 in
theorem op_spreaderCount (hl : l.stackTraces = false) (H : zInv S S) {x : Nat} (hx : x < 2 ^ 32) : zOpW l G S J E mL_spreaderCount hhL_spreaderCount [.ref 0, zi x, .ref 23] mX6_spreaderCount [.ref 12, zi x] := by
  obtain ⟨T, Gd, Hh, Dd, Pp⟩ := id H.1
  have hw := Gd.now
  have hm := H.1.mn
  have hz : S 26 0 ≤ 12 := Gd.1
  have ht4 : S 25 4 ≤ 4 := Gd.2.1
  by_cases h : x < S 25 4
  · exact zOpW.ret H (fun _ _ _ _ _ _ => rfl) (rL_spreaderCount hl (c_X5_spreaderCount hl hw hx h)) (c_X6_spreaderCount hl hm hx) ⟨by decide, by decide⟩ (if_pos h) (by rw [if_pos h, (T.r (show x < 4 by omega)).2.2.2.1])
  · exact zOpW.thr H (fun _ _ _ _ _ _ => rfl) (tL_spreaderCount_1 hl (t1_X5_spreaderCount hl hw hx h)) (c_X6_spreaderCount hl hm hx) ⟨by decide, by decide⟩ (if_neg h) (by decide)
set_option maxHeartbeats 2000000 in
theorem op_scepticCount (hl : l.stackTraces = false) (H : zInv S S) {x : Nat} (hx : x < 2 ^ 32) : zOpW l G S J E mL_scepticCount hhL_scepticCount [.ref 0, zi x, .ref 23] mX6_scepticCount [.ref 12, zi x] := by
  obtain ⟨T, Gd, Hh, Dd, Pp⟩ := id H.1
  have hw := Gd.now
  have hm := H.1.mn
  have hz : S 26 0 ≤ 12 := Gd.1
  have ht4 : S 25 4 ≤ 4 := Gd.2.1
  by_cases h : x < S 25 4
  · exact zOpW.ret H (fun _ _ _ _ _ _ => rfl) (rL_scepticCount hl (c_X5_scepticCount hl hw hx h)) (c_X6_scepticCount hl hm hx) ⟨by decide, by decide⟩ (if_pos h) (by rw [if_pos h, (T.r (show x < 4 by omega)).2.2.2.2])
  · exact zOpW.thr H (fun _ _ _ _ _ _ => rfl) (tL_scepticCount_1 hl (t1_X5_scepticCount hl hw hx h)) (c_X6_scepticCount hl hm hx) ⟨by decide, by decide⟩ (if_neg h) (by decide)
set_option maxHeartbeats 2000000 in
theorem op_nextSpreaders (hl : l.stackTraces = false) (H : zInv S S) {x : Nat} (hx : x < 2 ^ 32) : zOpW l G S J E mL_nextSpreaders hhL_nextSpreaders [.ref 0, zi x, .ref 23] mX6_nextSpreaders [.ref 12, zi x] := by
  obtain ⟨T, Gd, Hh, Dd, Pp⟩ := id H.1
  have hw := Gd.now
  have hm := H.1.mn
  have hz : S 26 0 ≤ 12 := Gd.1
  have ht4 : S 25 4 ≤ 4 := Gd.2.1
  by_cases h : x < S 25 4
  · exact zOpW.ret H (fun _ _ _ _ _ _ => rfl) (rL_nextSpreaders hl (c_X5_nextSpreaders hl hw hx h)) (c_X6_nextSpreaders hl hm hx) ⟨by decide, by decide⟩ (if_pos h) (by rw [if_pos h, tie_next T Gd rfl h])
  · exact zOpW.thr H (fun _ _ _ _ _ _ => rfl) (tL_nextSpreaders_1 hl (t1_X5_nextSpreaders hl hw hx h)) (c_X6_nextSpreaders hl hm hx) ⟨by decide, by decide⟩ (if_neg h) (by decide)
set_option maxHeartbeats 2000000 in
theorem op_hiveSize (hl : l.stackTraces = false) (H : zInv S S) {x : Nat} (hx : x < 2 ^ 32) : zOpW l G S J E mL_hiveSize hhL_hiveSize [.ref 0, zi x, .ref 23] mX6_hiveSize [.ref 12, zi x] := by
  obtain ⟨T, Gd, Hh, Dd, Pp⟩ := id H.1
  have hw := Gd.now
  have hm := H.1.mn
  have hz : S 26 0 ≤ 12 := Gd.1
  have ht4 : S 25 4 ≤ 4 := Gd.2.1
  by_cases h : x < 4
  · exact zOpW.ret H (fun _ _ _ _ _ _ => rfl) (rL_hiveSize hl (c_X5_hiveSize hl hw hx h)) (c_X6_hiveSize hl hm hx) ⟨by decide, by decide⟩ (if_pos h) (by rw [tie_hsize T Gd rfl])
  · exact zOpW.thr H (fun _ _ _ _ _ _ => rfl) (tL_hiveSize_1 hl (t1_X5_hiveSize hl hw hx h)) (c_X6_hiveSize hl hm hx) ⟨by decide, by decide⟩ (if_neg h) (by decide)
set_option maxHeartbeats 2000000 in
theorem op_isAlive (hl : l.stackTraces = false) (H : zInv S S) {x : Nat} (hx : x < 2 ^ 32) : zOpB l G S J E mL_isAlive hhL_isAlive [.ref 0, zi x, .ref 23] mX6_isAlive [.ref 12, zi x] := by
  obtain ⟨T, Gd, Hh, Dd, Pp⟩ := id H.1
  have hw := Gd.now
  have hm := H.1.mn
  have hz : S 26 0 ≤ 12 := Gd.1
  have ht4 : S 25 4 ≤ 4 := Gd.2.1
  by_cases h : x < S 25 4
  · have e := (T.r (show x < 4 by omega)).2.1 h
    refine zOpB.ret H (rL_isAlive hl (c_X5_isAlive hl hw hx h)) (fun J1 => c_X6_isAlive hl hm hx) ⟨by decide, by decide⟩ (if_pos h) ?_
    rw [decide_eq_true h, Bool.true_and]
    exact decide_eq_decide.mpr (by omega)
  · exact zOpB.thr H (tL_isAlive_1 hl (t1_X5_isAlive hl hw hx h)) (c_X6_isAlive hl hm hx) ⟨by decide, by decide⟩ (if_neg h) (by decide)
set_option maxHeartbeats 2000000 in
theorem op_isLinked (hl : l.stackTraces = false) (H : zInv S S) {x : Nat} (hx : x < 2 ^ 32) {y : Nat} (hy : y < 2 ^ 32) : zOpB l G S J E mL_isLinked hhL_isLinked [.ref 0, zi x, zi y, .ref 23] mX6_isLinked [.ref 12, zi x, zi y] := by
  obtain ⟨T, Gd, Hh, Dd, Pp⟩ := id H.1
  have hw := Gd.now
  have hm := H.1.mn
  have hz : S 26 0 ≤ 12 := Gd.1
  have ht4 : S 25 4 ≤ 4 := Gd.2.1
  by_cases h : x < S 26 0
  · by_cases h2 : y < S 26 0
    · refine zOpB.ret H (rL_isLinked hl (c_X5_isLinked hl hw hx h hy h2)) (fun J1 => c_X6_isLinked hl hm hx hy) ⟨by decide, by decide⟩ (if_pos ⟨h, h2⟩) ?_
      rw [decide_eq_true (show x < S 26 0 ∧ y < S 26 0 from ⟨h, h2⟩), Bool.true_and, (T.e (show x < 12 by omega)).2.2]
    · exact zOpB.thr H (tL_isLinked_1 hl (t2_X5_isLinked hl hw hx h hy h2)) (c_X6_isLinked hl hm hx hy) ⟨by decide, by decide⟩ (if_neg (fun q => h2 q.2)) (by decide)
  · exact zOpB.thr H (tL_isLinked_1 hl (t1_X5_isLinked hl hw hx h hy)) (c_X6_isLinked hl hm hx hy) ⟨by decide, by decide⟩ (if_neg (fun q => h q.1)) (by decide)
set_option maxHeartbeats 2000000 in
theorem op_isSpreader (hl : l.stackTraces = false) (H : zInv S S) {x : Nat} (hx : x < 2 ^ 32) {y : Nat} (hy : y < 2 ^ 32) : zOpB l G S J E mL_isSpreader hhL_isSpreader [.ref 0, zi x, zi y, .ref 23] mX6_isSpreader [.ref 12, zi x, zi y] := by
  obtain ⟨T, Gd, Hh, Dd, Pp⟩ := id H.1
  have hw := Gd.now
  have hm := H.1.mn
  have hz : S 26 0 ≤ 12 := Gd.1
  have ht4 : S 25 4 ≤ 4 := Gd.2.1
  by_cases h : x < S 25 4
  · by_cases h2 : y < S 26 0
    · refine zOpB.ret H (rL_isSpreader hl (c_X5_isSpreader hl hw hx h hy h2)) (fun J1 => c_X6_isSpreader hl hm hx hy) ⟨by decide, by decide⟩ (if_pos ⟨h, h2⟩) ?_
      rw [decide_eq_true (show x < S 25 4 ∧ y < S 26 0 from ⟨h, h2⟩), Bool.true_and, (T.r (show x < 4 by omega)).2.2.2.1]
    · exact zOpB.thr H (tL_isSpreader_1 hl (t2_X5_isSpreader hl hw hx h hy h2)) (c_X6_isSpreader hl hm hx hy) ⟨by decide, by decide⟩ (if_neg (fun q => h2 q.2)) (by decide)
  · exact zOpB.thr H (tL_isSpreader_1 hl (t1_X5_isSpreader hl hw hx h hy)) (c_X6_isSpreader hl hm hx hy) ⟨by decide, by decide⟩ (if_neg (fun q => h q.1)) (by decide)
set_option maxHeartbeats 2000000 in
theorem op_isSceptic (hl : l.stackTraces = false) (H : zInv S S) {x : Nat} (hx : x < 2 ^ 32) {y : Nat} (hy : y < 2 ^ 32) : zOpB l G S J E mL_isSceptic hhL_isSceptic [.ref 0, zi x, zi y, .ref 23] mX6_isSceptic [.ref 12, zi x, zi y] := by
  obtain ⟨T, Gd, Hh, Dd, Pp⟩ := id H.1
  have hw := Gd.now
  have hm := H.1.mn
  have hz : S 26 0 ≤ 12 := Gd.1
  have ht4 : S 25 4 ≤ 4 := Gd.2.1
  by_cases h : x < S 25 4
  · by_cases h2 : y < S 26 0
    · refine zOpB.ret H (rL_isSceptic hl (c_X5_isSceptic hl hw hx h hy h2)) (fun J1 => c_X6_isSceptic hl hm hx hy) ⟨by decide, by decide⟩ (if_pos ⟨h, h2⟩) ?_
      rw [decide_eq_true (show x < S 25 4 ∧ y < S 26 0 from ⟨h, h2⟩), Bool.true_and, (T.r (show x < 4 by omega)).2.2.2.2]
    · exact zOpB.thr H (tL_isSceptic_1 hl (t2_X5_isSceptic hl hw hx h hy h2)) (c_X6_isSceptic hl hm hx hy) ⟨by decide, by decide⟩ (if_neg (fun q => h2 q.2)) (by decide)
  · exact zOpB.thr H (tL_isSceptic_1 hl (t1_X5_isSceptic hl hw hx h hy)) (c_X6_isSceptic hl hm hx hy) ⟨by decide, by decide⟩ (if_neg (fun q => h q.1)) (by decide)
set_option maxHeartbeats 2000000 in
theorem op_heardRound (hl : l.stackTraces = false) (H : zInv S S) {x : Nat} (hx : x < 2 ^ 32) {y : Nat} (hy : y < 2 ^ 32) : zOpW l G S J E mL_heardRound hhL_heardRound [.ref 0, zi x, zi y, .ref 23] mX6_heardRound [.ref 12, zi x, zi y] := by
  obtain ⟨T, Gd, Hh, Dd, Pp⟩ := id H.1
  have hw := Gd.now
  have hm := H.1.mn
  have hz : S 26 0 ≤ 12 := Gd.1
  have ht4 : S 25 4 ≤ 4 := Gd.2.1
  by_cases h : x < S 25 4
  · obtain ⟨-, -, -, r3, r4⟩ := T.r (show x < 4 by omega)
    by_cases h2 : y < S 26 0
    · have hp : x < S 25 4 ∧ y < S 26 0 := ⟨h, h2⟩
      cases ha : (S (33 + 2 * x) 3 ||| S (33 + 2 * x) 4).testBit y with
      | true =>
        have hb : (S 13 (41 + 5 * x + 3) ||| S 13 (41 + 5 * x + 4)).testBit y = true := by rw [r3, r4]; exact ha
        exact zOpW.ret H (fun _ _ _ _ _ _ => rfl) (rL_heardRound hl (c_X5_heardRound hl hw hx h hy h2 ha)) (c_X6_heardRound hl hm hx hy) ⟨by decide, by decide⟩ (by rw [if_pos hp, if_pos hb]) (by rw [if_pos hp, if_pos hb, T.h (show x < 4 by omega) (show y < 12 by omega)])
      | false =>
        have hb : ¬ (S 13 (41 + 5 * x + 3) ||| S 13 (41 + 5 * x + 4)).testBit y = true := by rw [r3, r4, ha]; decide
        exact zOpW.thr H (fun _ _ _ _ _ _ => rfl) (tL_heardRound_2 hl (t3_X5_heardRound hl hw hx h hy h2 ha)) (c_X6_heardRound hl hm hx hy) ⟨by decide, by decide⟩ (by rw [if_pos hp, if_neg hb]) (by decide)
    · exact zOpW.thr H (fun _ _ _ _ _ _ => rfl) (tL_heardRound_1 hl (t2_X5_heardRound hl hw hx h hy h2)) (c_X6_heardRound hl hm hx hy) ⟨by decide, by decide⟩ (if_neg (fun q => h2 q.2)) (by decide)
  · exact zOpW.thr H (fun _ _ _ _ _ _ => rfl) (tL_heardRound_1 hl (t1_X5_heardRound hl hw hx h hy)) (c_X6_heardRound hl hm hx hy) ⟨by decide, by decide⟩ (if_neg (fun q => h q.1)) (by decide)
set_option maxHeartbeats 2000000 in
theorem op_countedHive (hl : l.stackTraces = false) (H : zInv S S) {x : Nat} (hx : x < 2 ^ 32) : zOpW l G S J E mL_countedHive hhL_countedHive [.ref 0, zi x, .ref 23] mX6_countedHive [.ref 12, zi x] := by
  obtain ⟨T, Gd, Hh, Dd, Pp⟩ := id H.1
  have hw := Gd.now
  have hm := H.1.mn
  have hz : S 26 0 ≤ 12 := Gd.1
  have ht4 : S 25 4 ≤ 4 := Gd.2.1
  by_cases h : x < S 25 4
  · obtain ⟨-, -, -, r3, -⟩ := T.r (show x < 4 by omega)
    by_cases h0 : S (33 + 2 * x) 3 = 0
    · have hb : S 13 (41 + 5 * x + 3) = 0 := r3.trans h0
      exact zOpW.thr H (fun _ _ _ _ _ _ => rfl) (tL_countedHive_2 hl (t2_X5_countedHive hl hw hx h h0)) (c_X6_countedHive hl hm hx) ⟨by decide, by decide⟩ (by rw [if_pos h, if_pos hb]) (by decide)
    · have hb : ¬ S 13 (41 + 5 * x + 3) = 0 := fun q => h0 (r3.symm.trans q)
      exact zOpW.ret H (fun _ _ _ _ _ _ => rfl) (rL_countedHive hl (c_X5_countedHive hl hw hx h h0)) (c_X6_countedHive hl hm hx) ⟨by decide, by decide⟩ (by rw [if_pos h, if_neg hb]) (by rw [if_pos h, if_neg hb, tie_best T Gd rfl (show x < 4 by omega)])
  · exact zOpW.thr H (fun _ _ _ _ _ _ => rfl) (tL_countedHive_1 hl (t1_X5_countedHive hl hw hx h)) (c_X6_countedHive hl hm hx) ⟨by decide, by decide⟩ (if_neg h) (by decide)
set_option maxHeartbeats 2000000 in
theorem op_spreadersInHive (hl : l.stackTraces = false) (H : zInv S S) {x : Nat} (hx : x < 2 ^ 32) {y : Nat} (hy : y < 2 ^ 32) : zOpW l G S J E mL_spreadersInHive hhL_spreadersInHive [.ref 0, zi x, zi y, .ref 23] mX6_spreadersInHive [.ref 12, zi x, zi y] := by
  obtain ⟨T, Gd, Hh, Dd, Pp⟩ := id H.1
  have hw := Gd.now
  have hm := H.1.mn
  have hz : S 26 0 ≤ 12 := Gd.1
  have ht4 : S 25 4 ≤ 4 := Gd.2.1
  by_cases h : x < S 25 4
  · by_cases h2 : y < 4
    · have hp : x < S 25 4 ∧ y < 4 := ⟨h, h2⟩
      exact zOpW.ret H (fun _ _ _ _ _ _ => rfl) (rL_spreadersInHive hl (c_X5_spreadersInHive hl hw hx h hy h2)) (c_X6_spreadersInHive hl hm hx hy) ⟨by decide, by decide⟩ (if_pos hp) (by rw [if_pos hp, tie_inh T Gd rfl (show x < 4 by omega)])
    · exact zOpW.thr H (fun _ _ _ _ _ _ => rfl) (tL_spreadersInHive_1 hl (t2_X5_spreadersInHive hl hw hx h hy h2)) (c_X6_spreadersInHive hl hm hx hy) ⟨by decide, by decide⟩ (if_neg (fun q => h2 q.2)) (by decide)
  · exact zOpW.thr H (fun _ _ _ _ _ _ => rfl) (tL_spreadersInHive_1 hl (t1_X5_spreadersInHive hl hw hx h hy)) (c_X6_spreadersInHive hl hm hx hy) ⟨by decide, by decide⟩ (if_neg (fun q => h q.1)) (by decide)
set_option maxHeartbeats 2000000 in
theorem op_distance (hl : l.stackTraces = false) (H : zInv S S) {x : Nat} (hx : x < 2 ^ 32) {y : Nat} (hy : y < 2 ^ 32) : zOpW l G S J E mL_distance hhL_distance [.ref 0, zi x, zi y, .ref 23] mX6_distance [.ref 12, zi x, zi y] := by
  obtain ⟨T, Gd, Hh, Dd, Pp⟩ := id H.1
  have hw := Gd.now
  have hm := H.1.mn
  have hz : S 26 0 ≤ 12 := Gd.1
  have ht4 : S 25 4 ≤ 4 := Gd.2.1
  by_cases h : x < S 25 4
  · obtain ⟨-, -, -, r3, -⟩ := T.r (show x < 4 by omega)
    by_cases h2 : y < S 26 0
    · have hp : x < S 25 4 ∧ y < S 26 0 := ⟨h, h2⟩
      have e := tie_bfs T Gd rfl (g := S (33 + 2 * x) 3) h2
      rw [← r3] at e
      have hb := zBfs_lt hz (S := S) (g := S (33 + 2 * x) 3) (y := y)
      rw [← r3] at hb
      by_cases h0 : rDist (S 13) (S 26 0) (S 13 (41 + 5 * x + 3)) 13 0 (1 * 2 ^ y) = 4294967295
      · exact zOpW.thr H (fun _ _ _ _ _ _ => rfl) (tL_distance_2 hl (t3_X5_distance hl hw hx h hy h2 (by rw [← r3]; exact e.trans h0))) (c_X6_distance hl hm hx hy) ⟨by decide, by decide⟩ (by rw [if_pos hp, if_pos h0]) (by decide)
      · exact zOpW.ret H (fun _ _ _ _ _ _ => rfl) (rL_distance hl (c_X5_distance hl hw hx h hy h2 (by rw [← r3]; exact hb) (by rw [← r3]; exact fun q => h0 (e.symm.trans q)))) (c_X6_distance hl hm hx hy) ⟨by decide, by decide⟩ (by rw [if_pos hp, if_neg h0]) (by rw [if_pos hp, if_neg h0, ← r3, e])
    · exact zOpW.thr H (fun _ _ _ _ _ _ => rfl) (tL_distance_1 hl (t2_X5_distance hl hw hx h hy h2)) (c_X6_distance hl hm hx hy) ⟨by decide, by decide⟩ (if_neg (fun q => h2 q.2)) (by decide)
  · exact zOpW.thr H (fun _ _ _ _ _ _ => rfl) (tL_distance_1 hl (t1_X5_distance hl hw hx h hy)) (c_X6_distance hl hm hx hy) ⟨by decide, by decide⟩ (if_neg (fun q => h q.1)) (by decide)
set_option maxHeartbeats 2000000 in
theorem op_distanceByRelaxation (hl : l.stackTraces = false) (H : zInv S S) {x : Nat} (hx : x < 2 ^ 32) {y : Nat} (hy : y < 2 ^ 32) : zOpW l G S J E mL_distanceByRelaxation hhL_distanceByRelaxation [.ref 0, zi x, zi y, .ref 23] mX6_distanceByRelaxation [.ref 12, zi x, zi y] := by
  obtain ⟨T, Gd, Hh, Dd, Pp⟩ := id H.1
  have hw := Gd.now
  have hm := H.1.mn
  have hz : S 26 0 ≤ 12 := Gd.1
  have ht4 : S 25 4 ≤ 4 := Gd.2.1
  by_cases h : x < S 25 4
  · obtain ⟨-, -, -, r3, -⟩ := T.r (show x < 4 by omega)
    by_cases h2 : y < S 26 0
    · have hp : x < S 25 4 ∧ y < S 26 0 := ⟨h, h2⟩
      have hA : ∀ a b, a ≠ 3 → a ≠ 4 → a ≠ 28 → a ≠ 29 → zRlx S (S 26 0) (S (33 + 2 * x) 3) a b = S a b := fun a b _ _ _ h29 => zRlx_off h29
      have e := tie_rlx T Gd rfl (g := S (33 + 2 * x) 3) h2
      have hb := zBfs_lt hz (S := S) (g := S (33 + 2 * x) 3) (y := y)
      rw [tie_bfs T Gd rfl h2, ← e] at hb
      have hm2 := (H.q hA).1.1.mn
      have e13 : zRlx S (S 26 0) (S (33 + 2 * x) 3) 13 = S 13 := funext (fun b => zRlx_off (by decide))
      rw [← r3] at e
      by_cases h0 : rDist (S 13) (S 26 0) (S 13 (41 + 5 * x + 3)) 13 0 (1 * 2 ^ y) = 4294967295
      · exact zOpW.thr H hA (tL_distanceByRelaxation_2 hl (t3_X5_distanceByRelaxation hl hw hx h hy h2 (by rw [← r3]; exact e.trans h0))) (c_X6_distanceByRelaxation hl hm2 hx hy) ⟨by decide, by decide⟩ (by rw [if_pos hp, e13, if_pos h0]) (by decide)
      · exact zOpW.ret H hA (rL_distanceByRelaxation hl (c_X5_distanceByRelaxation hl hw hx h hy h2 hb (by rw [← r3]; exact fun q => h0 (e.symm.trans q)))) (c_X6_distanceByRelaxation hl hm2 hx hy) ⟨by decide, by decide⟩ (by rw [if_pos hp, e13, if_neg h0]) (by rw [if_pos hp, e13, if_neg h0, ← r3, e])
    · exact zOpW.thr H (fun _ _ _ _ _ _ => rfl) (tL_distanceByRelaxation_1 hl (t2_X5_distanceByRelaxation hl hw hx h hy h2)) (c_X6_distanceByRelaxation hl hm hx hy) ⟨by decide, by decide⟩ (if_neg (fun q => h2 q.2)) (by decide)
  · exact zOpW.thr H (fun _ _ _ _ _ _ => rfl) (tL_distanceByRelaxation_1 hl (t1_X5_distanceByRelaxation hl hw hx h hy)) (c_X6_distanceByRelaxation hl hm hx hy) ⟨by decide, by decide⟩ (if_neg (fun q => h q.1)) (by decide)
set_option maxHeartbeats 2000000 in
theorem op_rumourBySpread (hl : l.stackTraces = false) (H : zInv S S) {x : Nat} (hx : x < 2 ^ 32) : zOpW l G S J E mL_rumourBySpread hhL_rumourBySpread [.ref 0, zi x, .ref 23] mX6_rumourBySpread [.ref 12, zi x] := by
  obtain ⟨T, Gd, Hh, Dd, Pp⟩ := id H.1
  have hw := Gd.now
  have hm := H.1.mn
  have hz : S 26 0 ≤ 12 := Gd.1
  have ht4 : S 25 4 ≤ 4 := Gd.2.1
  have e := tie_byspread T Gd rfl (x := x)
  by_cases h : zFind (fun r => decide (mRkR (S 13) (S 25 4) r = x)) (S 25 4) 0 = 4294967295
  · exact zOpW.thr H (fun _ _ _ _ _ _ => rfl) (tL_rumourBySpread_1 hl (t1_X5_rumourBySpread hl hw hx (e.trans h))) (c_X6_rumourBySpread hl hm hx) ⟨by decide, by decide⟩ (if_pos h) (by decide)
  · exact zOpW.ret H (fun _ _ _ _ _ _ => rfl) (rL_rumourBySpread hl (c_X5_rumourBySpread hl hw hx (by rw [e]; exact zFind_bd (by omega)) (fun q => h (e.symm.trans q)))) (c_X6_rumourBySpread hl hm hx) ⟨by decide, by decide⟩ (if_neg h) (by rw [if_neg h, e])
set_option maxHeartbeats 2000000 in
theorem op_listenerByGossip (hl : l.stackTraces = false) (H : zInv S S) {x : Nat} (hx : x < 2 ^ 32) : zOpW l G S J E mL_listenerByGossip hhL_listenerByGossip [.ref 0, zi x, .ref 23] mX6_listenerByGossip [.ref 12, zi x] := by
  obtain ⟨T, Gd, Hh, Dd, Pp⟩ := id H.1
  have hw := Gd.now
  have hm := H.1.mn
  have hz : S 26 0 ≤ 12 := Gd.1
  have ht4 : S 25 4 ≤ 4 := Gd.2.1
  have e := tie_bygossip T Gd rfl rfl (x := x)
  by_cases h : zFind (fun r => decide (mRkL (S 13) (S 26 0) (S 25 4) r = x)) (S 26 0) 0 = 4294967295
  · exact zOpW.thr H (fun _ _ _ _ _ _ => rfl) (tL_listenerByGossip_1 hl (t1_X5_listenerByGossip hl hw hx (e.trans h))) (c_X6_listenerByGossip hl hm hx) ⟨by decide, by decide⟩ (if_pos h) (by decide)
  · exact zOpW.ret H (fun _ _ _ _ _ _ => rfl) (rL_listenerByGossip hl (c_X5_listenerByGossip hl hw hx (by rw [e]; exact zFind_bd (by omega)) (fun q => h (e.symm.trans q)))) (c_X6_listenerByGossip hl hm hx) ⟨by decide, by decide⟩ (if_neg h) (by rw [if_neg h, e])
end OP
