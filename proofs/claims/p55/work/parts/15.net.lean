/-- what the code of Net computes -/
def zAround (S : zS) (g n : Nat) : Nat := zIt (fun i r => if g.testBit i then r ||| S 27 i else r) n 0
def zPiece (S : zS) (n e : Nat) : Nat := zIt (fun _ p => p ||| zAround S p n) (n - 1) (1 * 2 ^ e)
def zSearch (S : zS) (n : Nat) : Nat × Nat := zIt (fun i q => if q.2.testBit i then q else (q.1 + 1, q.2 ||| zPiece S n i)) n (0, 0)
def zRoot (p : Nat → Nat) : Nat → Nat → Nat
  | 0, r => r
  | k + 1, r => if p r = r then r else zRoot p k (p r)
def zBfs (S : zS) (g n : Nat) : Nat → Nat → Nat → Nat → Nat
  | 0, _, _, _ => 4294967295
  | k + 1, step, edge, seen => if edge &&& g = 0 then zBfs S g n k (step + 1) (zAround S edge n &&& (seen ^^^ 4294967295)) (seen ||| (zAround S edge n &&& (seen ^^^ 4294967295))) else step

set_option maxRecDepth 100000 in
set_option maxHeartbeats 4000000 in
theorem c_X1_joined {l : Launch} (hl : l.stackTraces = false) {G : zG} {S : zS} {J : Int64} {E : UInt64} {x y : Nat} (hx : x < 12) (hy : y < 12) : nCR l G mX1_joined 1 0 0 [.ref 26, zi x, zi y] S J E (some (zi ((S 27 x).testBit y).toNat)) S J E := by
  refine nCR.of hl (by decide) rfl (Nat.le_of_ble_eq_true rfl) (ls := [some (.ref 26), some (zi x), some (zi y)]) rfl (fun X C hF hX => ?_)
  subst hX
  refine sw_aload_0 C dX1_joined_0 ?_
  refine sw_getR C (o' := 27) fX1_18 rfl (by decide) rfl rfl (by decide) dX1_joined_1 ?_
  refine sw_iload_1 C dX1_joined_4 ?_
  refine sn_iald C rfl (by decide) (by omega) (by decide) dX1_joined_5 ?_
  refine sw_iload_2 C dX1_joined_6 ?_
  refine sn_cS2r C vX5_contains lX1_34 dX1_joined_7 (Nat.le_of_ble_eq_true rfl) (c_X5_contains hl (by omega)) (by decide) (by decide) (by decide) ?_
  exact sn_zret C rfl hF dX1_joined_10 (by decide) (by decide) (by first | rfl | (simp [*]; done)) rfl rfl rfl

set_option maxRecDepth 100000 in
set_option maxHeartbeats 4000000 in
theorem c_X1_around {l : Launch} (hl : l.stackTraces = false) {G : zG} {S : zS} {J : Int64} {E : UInt64} {g : Nat} {n : Nat} (hn : S 26 0 = n) (hz : n ≤ 12) : nCR l G mX1_around 1 0 0 [.ref 26, zi g] S J E (some (zi (zAround S g (n)))) S J E := by
  refine nCR.of hl (by decide) rfl (Nat.le_of_ble_eq_true rfl) (ls := [some (.ref 26), some (zi g), none, none]) rfl (fun X C hF hX => ?_)
  subst hX
  refine sn_iconst C 0 (by decide) dX1_around_0 ?_
  refine sw_istore_2 C rfl dX1_around_1 ?_
  refine sn_iconst C 0 (by decide) dX1_around_2 ?_
  refine sw_istore_3 C rfl dX1_around_3 ?_
  have L : ∀ (k i r : Nat), i ≤ n → r = zIt (fun i r => if g.testBit i then r ||| S 27 i else r) i 0 → n - i < k → SN G X 0 0 4 [some (.ref 26), some (zi g), some (zi r), some (zi i)] [] S J E := by
    intro k
    induction k with
    | zero => intro i r _ _ hk; exact absurd hk (by omega)
    | succ k ih =>
      intro i r hi hr hk
      refine sw_iload_3 C dX1_around_4 ?_
      refine sw_aload_0 C dX1_around_5 ?_
      refine sn_getI C fX1_9 rfl (by decide) rfl dX1_around_6 ?_
      refine sn_icmp_ge C 35 (by omega) (by omega) dX1_around_9 (by decide) (fun c9 => ?_) (fun c9 => ?_)
      · refine sw_iload_2 C dX1_around_35 ?_
        exact sn_iret C rfl hF dX1_around_36 (by decide) (by decide) (by rw [hr, show i = n from by omega]; rfl) rfl rfl rfl
      · refine sw_iload_1 C dX1_around_12 ?_
        refine sw_iload_3 C dX1_around_13 ?_
        refine sn_cS2r C vX5_contains lX1_34 dX1_around_14 (Nat.le_of_ble_eq_true rfl) (c_X5_contains hl (by omega)) (by decide) (by decide) (by decide) ?_
        refine sn_if_eqB C 29 dX1_around_17 (by decide) (fun c17 => ?_) (fun c17 => ?_)
        · refine sn_iinc_3 C rfl dX1_around_29 ?_
          refine sw_goto C 4 dX1_around_32 (by decide) ?_
          exact ih (i + 1) _ (by omega) (by rw [zIt, ← hr]; simp [c17]) (by omega)
        · refine sw_iload_2 C dX1_around_20 ?_
          refine sw_aload_0 C dX1_around_21 ?_
          refine sw_getR C (o' := 27) fX1_18 rfl (by decide) rfl rfl (by decide) dX1_around_22 ?_
          refine sw_iload_3 C dX1_around_25 ?_
          refine sn_iald C rfl (by decide) (by omega) (by decide) dX1_around_26 ?_
          refine sn_ior C dX1_around_27 ?_
          refine sw_istore_2 C rfl dX1_around_28 ?_
          refine sn_iinc_3 C rfl dX1_around_29 ?_
          refine sw_goto C 4 dX1_around_32 (by decide) ?_
          exact ih (i + 1) _ (by omega) (by rw [zIt, ← hr]; simp [c17]) (by omega)
  exact L _ 0 0 (Nat.zero_le _) rfl (Nat.lt_succ_self _)

set_option maxRecDepth 100000 in
set_option maxHeartbeats 4000000 in
theorem c_X1_pieceOf {l : Launch} (hl : l.stackTraces = false) {G : zG} {S : zS} {J : Int64} {E : UInt64} {x : Nat} (hx : x < 12) {n : Nat} (hn : S 26 0 = n) (hz : n ≤ 12) : nCR l G mX1_pieceOf 2 0 0 [.ref 26, zi x] S J E (some (zi (zPiece S (n) x))) S J E := by
  refine nCR.of hl (by decide) rfl (Nat.le_of_ble_eq_true rfl) (ls := [some (.ref 26), some (zi x), none, none]) rfl (fun X C hF hX => ?_)
  subst hX
  refine sn_iconst C 1 (by decide) dX1_pieceOf_0 ?_
  refine sw_iload_1 C dX1_pieceOf_1 ?_
  refine sn_ishl C (by omega) dX1_pieceOf_2 ?_
  refine sw_istore_2 C rfl dX1_pieceOf_3 ?_
  refine sn_iconst C 1 (by decide) dX1_pieceOf_4 ?_
  refine sw_istore_3 C rfl dX1_pieceOf_5 ?_
  have L : ∀ (k i p : Nat), i ≤ n - 1 → p = zIt (fun _ p => p ||| zAround S p (n)) i (1 * 2 ^ x) → n - 1 - i < k → SN G X 0 0 6 [some (.ref 26), some (zi x), some (zi p), some (zi (i + 1))] [] S J E := by
    intro k
    induction k with
    | zero => intro i p _ _ hk; exact absurd hk (by omega)
    | succ k ih =>
      intro i p hi hp hk
      refine sw_iload_3 C dX1_pieceOf_6 ?_
      refine sw_aload_0 C dX1_pieceOf_7 ?_
      refine sn_getI C fX1_9 rfl (by decide) rfl dX1_pieceOf_8 ?_
      refine sn_icmp_ge C 28 (by omega) (by omega) dX1_pieceOf_11 (by decide) (fun c11 => ?_) (fun c11 => ?_)
      · refine sw_iload_2 C dX1_pieceOf_28 ?_
        exact sn_iret C rfl hF dX1_pieceOf_29 (by decide) (by decide) (by rw [hp, show i = n - 1 from by omega]; rfl) rfl rfl rfl
      · refine sw_iload_2 C dX1_pieceOf_14 ?_
        refine sw_aload_0 C dX1_pieceOf_15 ?_
        refine sw_iload_2 C dX1_pieceOf_16 ?_
        refine sn_cV1r C vX1_around lX1_42 rfl (by decide) rfl rfl dX1_pieceOf_17 (Nat.le_of_ble_eq_true rfl) (c_X1_around hl hn hz) (by decide) (by decide) (by decide) ?_
        refine sn_ior C dX1_pieceOf_20 ?_
        refine sw_istore_2 C rfl dX1_pieceOf_21 ?_
        refine sn_iinc_3 C rfl dX1_pieceOf_22 ?_
        refine sw_goto C 6 dX1_pieceOf_25 (by decide) ?_
        exact ih (i + 1) _ (by omega) (by rw [hp]; rfl) (by omega)
  exact L _ 0 _ (Nat.zero_le _) rfl (Nat.lt_succ_self _)

set_option maxRecDepth 100000 in
set_option maxHeartbeats 4000000 in
theorem c_X1_piecesBySearch {l : Launch} (hl : l.stackTraces = false) {G : zG} {S : zS} {J : Int64} {E : UInt64} {n : Nat} (hn : S 26 0 = n) (hz : n ≤ 12) : nCR l G mX1_piecesBySearch 3 0 0 [.ref 26] S J E (some (zi (zSearch S (n)).1)) S J E := by
  refine nCR.of hl (by decide) rfl (Nat.le_of_ble_eq_true rfl) (ls := [some (.ref 26), none, none, none]) rfl (fun X C hF hX => ?_)
  subst hX
  refine sn_iconst C 0 (by decide) dX1_piecesBySearch_0 ?_
  refine sw_istore_1 C rfl dX1_piecesBySearch_1 ?_
  refine sn_iconst C 0 (by decide) dX1_piecesBySearch_2 ?_
  refine sw_istore_2 C rfl dX1_piecesBySearch_3 ?_
  refine sn_iconst C 0 (by decide) dX1_piecesBySearch_4 ?_
  refine sw_istore_3 C rfl dX1_piecesBySearch_5 ?_
  have L : ∀ (k i : Nat) (q : Nat × Nat), i ≤ n → q = zIt (fun i q => if q.2.testBit i then q else (q.1 + 1, q.2 ||| zPiece S (n) i)) i (0, 0) → n - i < k → SN G X 0 0 6 [some (.ref 26), some (zi q.1), some (zi q.2), some (zi i)] [] S J E := by
    intro k
    induction k with
    | zero => intro i q _ _ hk; exact absurd hk (by omega)
    | succ k ih =>
      intro i q hi hq hk
      refine sw_iload_3 C dX1_piecesBySearch_6 ?_
      refine sw_aload_0 C dX1_piecesBySearch_7 ?_
      refine sn_getI C fX1_9 rfl (by decide) rfl dX1_piecesBySearch_8 ?_
      refine sn_icmp_ge C 39 (by omega) (by omega) dX1_piecesBySearch_11 (by decide) (fun c11 => ?_) (fun c11 => ?_)
      · refine sw_iload_1 C dX1_piecesBySearch_39 ?_
        exact sn_iret C rfl hF dX1_piecesBySearch_40 (by decide) (by decide) (by rw [hq, show i = n from by omega]; rfl) rfl rfl rfl
      · refine sw_iload_2 C dX1_piecesBySearch_14 ?_
        refine sw_iload_3 C dX1_piecesBySearch_15 ?_
        refine sn_cS2r C vX5_contains lX1_34 dX1_piecesBySearch_16 (Nat.le_of_ble_eq_true rfl) (c_X5_contains hl (by omega)) (by decide) (by decide) (by decide) ?_
        refine sn_if_neB C 33 dX1_piecesBySearch_19 (by decide) (fun c19 => ?_) (fun c19 => ?_)
        · refine sn_iinc_3 C rfl dX1_piecesBySearch_33 ?_
          refine sw_goto C 6 dX1_piecesBySearch_36 (by decide) ?_
          first | exact ih (i + 1) q (by omega) (by rw [zIt, ← hq]; simp [c19]) (by omega) | exact ih (i + 1) (q.1 + 1, q.2 ||| zPiece S (n) i) (by omega) (by rw [zIt, ← hq]; simp [c19]) (by omega)
        · refine sn_iinc_1 C rfl dX1_piecesBySearch_22 ?_
          refine sw_iload_2 C dX1_piecesBySearch_25 ?_
          refine sw_aload_0 C dX1_piecesBySearch_26 ?_
          refine sw_iload_3 C dX1_piecesBySearch_27 ?_
          refine sn_cV1r C vX1_pieceOf lX1_38 rfl (by decide) rfl rfl dX1_piecesBySearch_28 (Nat.le_of_ble_eq_true rfl) (c_X1_pieceOf hl (by omega) hn hz) (by decide) (by decide) (by decide) ?_
          refine sn_ior C dX1_piecesBySearch_31 ?_
          refine sw_istore_2 C rfl dX1_piecesBySearch_32 ?_
          refine sn_iinc_3 C rfl dX1_piecesBySearch_33 ?_
          refine sw_goto C 6 dX1_piecesBySearch_36 (by decide) ?_
          first | exact ih (i + 1) q (by omega) (by rw [zIt, ← hq]; simp [c19]) (by omega) | exact ih (i + 1) (q.1 + 1, q.2 ||| zPiece S (n) i) (by omega) (by rw [zIt, ← hq]; simp [c19]) (by omega)
  exact L _ 0 (0, 0) (Nat.zero_le _) rfl (Nat.lt_succ_self _)
