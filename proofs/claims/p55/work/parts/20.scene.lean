set_option maxRecDepth 100000 in
set_option maxHeartbeats 4000000 in
theorem c_X3_hasListener {l : Launch} (hl : l.stackTraces = false) {G : zG} {S : zS} {J : Int64} {E : UInt64} {n : Nat} (hn : S 26 0 = n) (hz : n ≤ 12) {x : Nat} (hx : x < 2 ^ 32) : nCR l G mX3_hasListener 0 0 0 [.ref 25, zi x] S J E (some (zi (decide (x < n)).toNat)) S J E := by
  refine nCR.of hl (by decide) rfl (Nat.le_of_ble_eq_true rfl) (ls := [some (.ref 25), some (zi x)]) rfl (fun X C hF hX => ?_)
  subst hX
  refine sw_iload_1 C dX3_hasListener_0 ?_
  refine sn_if_lt C 19 (by omega) dX3_hasListener_1 (by decide) (fun c1 => ?_) (fun c1 => ?_)
  · refine sn_iconst C 0 (by decide) dX3_hasListener_19 ?_
    exact sn_zret C (v := false) rfl hF dX3_hasListener_20 (by decide) (by decide) (by simp; omega) rfl rfl rfl
  · refine sw_iload_1 C dX3_hasListener_4 ?_
    refine sw_aload_0 C dX3_hasListener_5 ?_
    refine sw_getR C (o' := 26) fX3_12 rfl (by decide) rfl rfl (by decide) dX3_hasListener_6 ?_
    refine sn_getI C fX3_58 rfl (by decide) rfl dX3_hasListener_9 ?_
    refine sn_icmp_ge C 19 (by omega) (by omega) dX3_hasListener_12 (by decide) (fun c12 => ?_) (fun c12 => ?_)
    · refine sn_iconst C 0 (by decide) dX3_hasListener_19 ?_
      exact sn_zret C (v := false) rfl hF dX3_hasListener_20 (by decide) (by decide) (by simp; omega) rfl rfl rfl
    · refine sn_iconst C 1 (by decide) dX3_hasListener_15 ?_
      refine sw_goto C 20 dX3_hasListener_16 (by decide) ?_
      exact sn_zret C (v := true) rfl hF dX3_hasListener_20 (by decide) (by decide) (by simp; omega) rfl rfl rfl

set_option maxRecDepth 100000 in
set_option maxHeartbeats 4000000 in
theorem c_X3_hasRumour {l : Launch} (hl : l.stackTraces = false) {G : zG} {S : zS} {J : Int64} {E : UInt64} {t : Nat} (ht : S 25 4 = t) (ht4 : t ≤ 4) {x : Nat} (hx : x < 2 ^ 32) : nCR l G mX3_hasRumour 0 0 0 [.ref 25, zi x] S J E (some (zi (decide (x < t)).toNat)) S J E := by
  refine nCR.of hl (by decide) rfl (Nat.le_of_ble_eq_true rfl) (ls := [some (.ref 25), some (zi x)]) rfl (fun X C hF hX => ?_)
  subst hX
  refine sw_iload_1 C dX3_hasRumour_0 ?_
  refine sn_if_lt C 16 (by omega) dX3_hasRumour_1 (by decide) (fun c1 => ?_) (fun c1 => ?_)
  · refine sn_iconst C 0 (by decide) dX3_hasRumour_16 ?_
    exact sn_zret C (v := false) rfl hF dX3_hasRumour_17 (by decide) (by decide) (by simp; omega) rfl rfl rfl
  · refine sw_iload_1 C dX3_hasRumour_4 ?_
    refine sw_aload_0 C dX3_hasRumour_5 ?_
    refine sn_getI C fX3_31 rfl (by decide) rfl dX3_hasRumour_6 ?_
    refine sn_icmp_ge C 16 (by omega) (by omega) dX3_hasRumour_9 (by decide) (fun c9 => ?_) (fun c9 => ?_)
    · refine sn_iconst C 0 (by decide) dX3_hasRumour_16 ?_
      exact sn_zret C (v := false) rfl hF dX3_hasRumour_17 (by decide) (by decide) (by simp; omega) rfl rfl rfl
    · refine sn_iconst C 1 (by decide) dX3_hasRumour_12 ?_
      refine sw_goto C 17 dX3_hasRumour_13 (by decide) ?_
      exact sn_zret C (v := true) rfl hF dX3_hasRumour_17 (by decide) (by decide) (by simp; omega) rfl rfl rfl

/-- the codes of refusal -/
def zrAdd (n x y : Nat) : Nat := if x < 4 ∧ y ≤ 9 then (if n < 12 then 0 else 3) else 2
def zrJoin (S : zS) (n x y : Nat) : Nat := if x < n ∧ y < n then (if x = y then 2 else if (S 27 x).testBit y then 3 else 0) else 1
def zrCut (S : zS) (n x y : Nat) : Nat := if x < n ∧ y < n then (if (S 27 x).testBit y then 0 else 4) else 1
def zrMove (S : zS) (n x y : Nat) : Nat := if x < n then (if y < 4 then (if S 30 x = y then 3 else 0) else 2) else 1
def zrStart (n t x y : Nat) : Nat := if x < n then (if y ≤ 9 then (if t < 4 then 0 else 3) else 2) else 1
def zrConv (S : zS) (n t x y : Nat) : Nat := if x < t ∧ y < n then (if (S (33 + 2 * x) 3).testBit y then 0 else 3) else 1
def zrSil (S : zS) (t x : Nat) : Nat := if x < t then (if S (33 + 2 * x) 2 = 0 then 3 else 0) else 1
def zrRev (S : zS) (t x y : Nat) : Nat := if x < t then (if y ≤ 9 then (if S (33 + 2 * x) 2 = 0 then 0 else 3) else 2) else 1

set_option maxRecDepth 100000 in
set_option maxHeartbeats 4000000 in
theorem c_X3_refusalToAdd {l : Launch} (hl : l.stackTraces = false) {G : zG} {S : zS} {J : Int64} {E : UInt64} {n : Nat} (hn : S 26 0 = n) (hz : n ≤ 12) {x y : Nat} (hx : x < 2 ^ 32) (hy : y < 2 ^ 32) : nCR l G mX3_refusalToAdd 1 0 0 [.ref 25, zi x, zi y] S J E (some (zi (zrAdd n x y))) S J E := by
  refine nCR.of hl (by decide) rfl (Nat.le_of_ble_eq_true rfl) (ls := [some (.ref 25), some (zi x), some (zi y)]) rfl (fun X C hF hX => ?_)
  subst hX
  refine sw_iload_1 C dX3_refusalToAdd_0 ?_
  refine sn_cS1r C vX5_isHive lX3_61 dX3_refusalToAdd_1 (Nat.le_of_ble_eq_true rfl) (c_X5_isHive hl hx) (by decide) (by decide) (by decide) ?_
  refine sn_if_eqB C 14 dX3_refusalToAdd_4 (by decide) (fun c4 => ?_) (fun c4 => ?_)
  · simp only [decide_eq_false_iff_not, decide_eq_true_eq] at c4
    refine sn_iconst C 2 (by decide) dX3_refusalToAdd_14 ?_
    exact sn_iret C rfl hF dX3_refusalToAdd_15 (by decide) (by decide) (by unfold zrAdd; split <;> (try split) <;> omega) rfl rfl rfl
  · simp only [decide_eq_false_iff_not, decide_eq_true_eq] at c4
    refine sw_iload_2 C dX3_refusalToAdd_7 ?_
    refine sn_cS1r C vX5_isLevel lX3_65 dX3_refusalToAdd_8 (Nat.le_of_ble_eq_true rfl) (c_X5_isLevel hl hy) (by decide) (by decide) (by decide) ?_
    refine sn_if_neB C 16 dX3_refusalToAdd_11 (by decide) (fun c11 => ?_) (fun c11 => ?_)
    · simp only [decide_eq_false_iff_not, decide_eq_true_eq] at c11
      refine sw_aload_0 C dX3_refusalToAdd_16 ?_
      refine sw_getR C (o' := 26) fX3_12 rfl (by decide) rfl rfl (by decide) dX3_refusalToAdd_17 ?_
      refine sn_getI C fX3_58 rfl (by decide) rfl dX3_refusalToAdd_20 ?_
      refine sn_bipush C 12 (by decide) dX3_refusalToAdd_23 ?_
      refine sn_icmp_ge C 32 (by omega) (by omega) dX3_refusalToAdd_25 (by decide) (fun c25 => ?_) (fun c25 => ?_)
      · refine sn_iconst C 3 (by decide) dX3_refusalToAdd_32 ?_
        exact sn_iret C rfl hF dX3_refusalToAdd_33 (by decide) (by decide) (by unfold zrAdd; split <;> (try split) <;> omega) rfl rfl rfl
      · refine sn_iconst C 0 (by decide) dX3_refusalToAdd_28 ?_
        refine sw_goto C 33 dX3_refusalToAdd_29 (by decide) ?_
        exact sn_iret C rfl hF dX3_refusalToAdd_33 (by decide) (by decide) (by unfold zrAdd; split <;> (try split) <;> omega) rfl rfl rfl
    · simp only [decide_eq_false_iff_not, decide_eq_true_eq] at c11
      refine sn_iconst C 2 (by decide) dX3_refusalToAdd_14 ?_
      exact sn_iret C rfl hF dX3_refusalToAdd_15 (by decide) (by decide) (by unfold zrAdd; split <;> (try split) <;> omega) rfl rfl rfl

set_option maxRecDepth 100000 in
set_option maxHeartbeats 4000000 in
theorem c_X3_refusalToJoin {l : Launch} (hl : l.stackTraces = false) {G : zG} {S : zS} {J : Int64} {E : UInt64} {n : Nat} (hn : S 26 0 = n) (hz : n ≤ 12) {x y : Nat} (hx : x < 2 ^ 32) (hy : y < 2 ^ 32) : nCR l G mX3_refusalToJoin 2 0 0 [.ref 25, zi x, zi y] S J E (some (zi (zrJoin S n x y))) S J E := by
  refine nCR.of hl (by decide) rfl (Nat.le_of_ble_eq_true rfl) (ls := [some (.ref 25), some (zi x), some (zi y)]) rfl (fun X C hF hX => ?_)
  subst hX
  refine sw_aload_0 C dX3_refusalToJoin_0 ?_
  refine sw_iload_1 C dX3_refusalToJoin_1 ?_
  refine sn_cV1r C vX3_hasListener lX3_68 rfl (by decide) rfl rfl dX3_refusalToJoin_2 (Nat.le_of_ble_eq_true rfl) (c_X3_hasListener hl hn hz hx) (by decide) (by decide) (by decide) ?_
  refine sn_if_eqB C 16 dX3_refusalToJoin_5 (by decide) (fun c5 => ?_) (fun c5 => ?_)
  · simp only [decide_eq_false_iff_not, decide_eq_true_eq] at c5
    refine sn_iconst C 1 (by decide) dX3_refusalToJoin_16 ?_
    exact sn_iret C rfl hF dX3_refusalToJoin_17 (by decide) (by decide) (by unfold zrJoin; split <;> (try split) <;> (try split) <;> first | rfl | omega | (simp_all; done)) rfl rfl rfl
  · simp only [decide_eq_false_iff_not, decide_eq_true_eq] at c5
    refine sw_aload_0 C dX3_refusalToJoin_8 ?_
    refine sw_iload_2 C dX3_refusalToJoin_9 ?_
    refine sn_cV1r C vX3_hasListener lX3_68 rfl (by decide) rfl rfl dX3_refusalToJoin_10 (Nat.le_of_ble_eq_true rfl) (c_X3_hasListener hl hn hz hy) (by decide) (by decide) (by decide) ?_
    refine sn_if_neB C 18 dX3_refusalToJoin_13 (by decide) (fun c13 => ?_) (fun c13 => ?_)
    · simp only [decide_eq_false_iff_not, decide_eq_true_eq] at c13
      refine sw_iload_1 C dX3_refusalToJoin_18 ?_
      refine sw_iload_2 C dX3_refusalToJoin_19 ?_
      refine sn_icmp_ne C 25 (by omega) (by omega) dX3_refusalToJoin_20 (by decide) (fun c20 => ?_) (fun c20 => ?_)
      · refine sw_aload_0 C dX3_refusalToJoin_25 ?_
        refine sw_getR C (o' := 26) fX3_12 rfl (by decide) rfl rfl (by decide) dX3_refusalToJoin_26 ?_
        refine sw_iload_1 C dX3_refusalToJoin_29 ?_
        refine sw_iload_2 C dX3_refusalToJoin_30 ?_
        refine sn_cV2r C vX1_joined lX3_71 rfl (by decide) rfl rfl dX3_refusalToJoin_31 (Nat.le_of_ble_eq_true rfl) (c_X1_joined hl (by omega) (by omega)) (by decide) (by decide) (by decide) ?_
        refine sn_if_eqB C 41 dX3_refusalToJoin_34 (by decide) (fun c34 => ?_) (fun c34 => ?_)
        · refine sn_iconst C 0 (by decide) dX3_refusalToJoin_41 ?_
          exact sn_iret C rfl hF dX3_refusalToJoin_42 (by decide) (by decide) (by unfold zrJoin; split <;> (try split) <;> (try split) <;> first | rfl | omega | (simp_all; done)) rfl rfl rfl
        · refine sn_iconst C 3 (by decide) dX3_refusalToJoin_37 ?_
          refine sw_goto C 42 dX3_refusalToJoin_38 (by decide) ?_
          exact sn_iret C rfl hF dX3_refusalToJoin_42 (by decide) (by decide) (by unfold zrJoin; split <;> (try split) <;> (try split) <;> first | rfl | omega | (simp_all; done)) rfl rfl rfl
      · refine sn_iconst C 2 (by decide) dX3_refusalToJoin_23 ?_
        exact sn_iret C rfl hF dX3_refusalToJoin_24 (by decide) (by decide) (by unfold zrJoin; split <;> (try split) <;> (try split) <;> first | rfl | omega | (simp_all; done)) rfl rfl rfl
    · simp only [decide_eq_false_iff_not, decide_eq_true_eq] at c13
      refine sn_iconst C 1 (by decide) dX3_refusalToJoin_16 ?_
      exact sn_iret C rfl hF dX3_refusalToJoin_17 (by decide) (by decide) (by unfold zrJoin; split <;> (try split) <;> (try split) <;> first | rfl | omega | (simp_all; done)) rfl rfl rfl

set_option maxRecDepth 100000 in
set_option maxHeartbeats 4000000 in
theorem c_X3_refusalToCut {l : Launch} (hl : l.stackTraces = false) {G : zG} {S : zS} {J : Int64} {E : UInt64} {n : Nat} (hn : S 26 0 = n) (hz : n ≤ 12) {x y : Nat} (hx : x < 2 ^ 32) (hy : y < 2 ^ 32) : nCR l G mX3_refusalToCut 2 0 0 [.ref 25, zi x, zi y] S J E (some (zi (zrCut S n x y))) S J E := by
  refine nCR.of hl (by decide) rfl (Nat.le_of_ble_eq_true rfl) (ls := [some (.ref 25), some (zi x), some (zi y)]) rfl (fun X C hF hX => ?_)
  subst hX
  refine sw_aload_0 C dX3_refusalToCut_0 ?_
  refine sw_iload_1 C dX3_refusalToCut_1 ?_
  refine sn_cV1r C vX3_hasListener lX3_68 rfl (by decide) rfl rfl dX3_refusalToCut_2 (Nat.le_of_ble_eq_true rfl) (c_X3_hasListener hl hn hz hx) (by decide) (by decide) (by decide) ?_
  refine sn_if_eqB C 16 dX3_refusalToCut_5 (by decide) (fun c5 => ?_) (fun c5 => ?_)
  · simp only [decide_eq_false_iff_not, decide_eq_true_eq] at c5
    refine sn_iconst C 1 (by decide) dX3_refusalToCut_16 ?_
    exact sn_iret C rfl hF dX3_refusalToCut_17 (by decide) (by decide) (by unfold zrCut; split <;> (try split) <;> (try split) <;> first | rfl | omega | (simp_all; done)) rfl rfl rfl
  · simp only [decide_eq_false_iff_not, decide_eq_true_eq] at c5
    refine sw_aload_0 C dX3_refusalToCut_8 ?_
    refine sw_iload_2 C dX3_refusalToCut_9 ?_
    refine sn_cV1r C vX3_hasListener lX3_68 rfl (by decide) rfl rfl dX3_refusalToCut_10 (Nat.le_of_ble_eq_true rfl) (c_X3_hasListener hl hn hz hy) (by decide) (by decide) (by decide) ?_
    refine sn_if_neB C 18 dX3_refusalToCut_13 (by decide) (fun c13 => ?_) (fun c13 => ?_)
    · simp only [decide_eq_false_iff_not, decide_eq_true_eq] at c13
      refine sw_aload_0 C dX3_refusalToCut_18 ?_
      refine sw_getR C (o' := 26) fX3_12 rfl (by decide) rfl rfl (by decide) dX3_refusalToCut_19 ?_
      refine sw_iload_1 C dX3_refusalToCut_22 ?_
      refine sw_iload_2 C dX3_refusalToCut_23 ?_
      refine sn_cV2r C vX1_joined lX3_71 rfl (by decide) rfl rfl dX3_refusalToCut_24 (Nat.le_of_ble_eq_true rfl) (c_X1_joined hl (by omega) (by omega)) (by decide) (by decide) (by decide) ?_
      refine sn_if_eqB C 34 dX3_refusalToCut_27 (by decide) (fun c27 => ?_) (fun c27 => ?_)
      · refine sn_iconst C 4 (by decide) dX3_refusalToCut_34 ?_
        exact sn_iret C rfl hF dX3_refusalToCut_35 (by decide) (by decide) (by unfold zrCut; split <;> (try split) <;> (try split) <;> first | rfl | omega | (simp_all; done)) rfl rfl rfl
      · refine sn_iconst C 0 (by decide) dX3_refusalToCut_30 ?_
        refine sw_goto C 35 dX3_refusalToCut_31 (by decide) ?_
        exact sn_iret C rfl hF dX3_refusalToCut_35 (by decide) (by decide) (by unfold zrCut; split <;> (try split) <;> (try split) <;> first | rfl | omega | (simp_all; done)) rfl rfl rfl
    · simp only [decide_eq_false_iff_not, decide_eq_true_eq] at c13
      refine sn_iconst C 1 (by decide) dX3_refusalToCut_16 ?_
      exact sn_iret C rfl hF dX3_refusalToCut_17 (by decide) (by decide) (by unfold zrCut; split <;> (try split) <;> (try split) <;> first | rfl | omega | (simp_all; done)) rfl rfl rfl

set_option maxRecDepth 100000 in
set_option maxHeartbeats 4000000 in
theorem c_X3_refusalToMove {l : Launch} (hl : l.stackTraces = false) {G : zG} {S : zS} {J : Int64} {E : UInt64} {n : Nat} (hn : S 26 0 = n) (hz : n ≤ 12) {x y : Nat} (hx : x < 2 ^ 32) (hy : y < 2 ^ 32) (hv : ∀ e, e < n → S 30 e < 4) : nCR l G mX3_refusalToMove 1 0 0 [.ref 25, zi x, zi y] S J E (some (zi (zrMove S n x y))) S J E := by
  refine nCR.of hl (by decide) rfl (Nat.le_of_ble_eq_true rfl) (ls := [some (.ref 25), some (zi x), some (zi y)]) rfl (fun X C hF hX => ?_)
  subst hX
  refine sw_aload_0 C dX3_refusalToMove_0 ?_
  refine sw_iload_1 C dX3_refusalToMove_1 ?_
  refine sn_cV1r C vX3_hasListener lX3_68 rfl (by decide) rfl rfl dX3_refusalToMove_2 (Nat.le_of_ble_eq_true rfl) (c_X3_hasListener hl hn hz hx) (by decide) (by decide) (by decide) ?_
  refine sn_if_neB C 10 dX3_refusalToMove_5 (by decide) (fun c5 => ?_) (fun c5 => ?_)
  · simp only [decide_eq_false_iff_not, decide_eq_true_eq] at c5
    refine sw_iload_2 C dX3_refusalToMove_10 ?_
    refine sn_cS1r C vX5_isHive lX3_61 dX3_refusalToMove_11 (Nat.le_of_ble_eq_true rfl) (c_X5_isHive hl hy) (by decide) (by decide) (by decide) ?_
    refine sn_if_neB C 19 dX3_refusalToMove_14 (by decide) (fun c14 => ?_) (fun c14 => ?_)
    · simp only [decide_eq_false_iff_not, decide_eq_true_eq] at c14
      refine sw_aload_0 C dX3_refusalToMove_19 ?_
      refine sw_getR C (o' := 30) fX3_18 rfl (by decide) rfl rfl (by decide) dX3_refusalToMove_20 ?_
      refine sw_iload_1 C dX3_refusalToMove_23 ?_
      refine sn_iald C rfl (by decide) (by omega) (by decide) dX3_refusalToMove_24 ?_
      refine sw_iload_2 C dX3_refusalToMove_25 ?_
      refine sn_icmp_ne C 33 (by have := hv x (by omega); omega) (by omega) dX3_refusalToMove_26 (by decide) (fun c26 => ?_) (fun c26 => ?_)
      · refine sn_iconst C 0 (by decide) dX3_refusalToMove_33 ?_
        exact sn_iret C rfl hF dX3_refusalToMove_34 (by decide) (by decide) (by unfold zrMove; split <;> (try split) <;> (try split) <;> first | rfl | omega | (simp_all; done)) rfl rfl rfl
      · refine sn_iconst C 3 (by decide) dX3_refusalToMove_29 ?_
        refine sw_goto C 34 dX3_refusalToMove_30 (by decide) ?_
        exact sn_iret C rfl hF dX3_refusalToMove_34 (by decide) (by decide) (by unfold zrMove; split <;> (try split) <;> (try split) <;> first | rfl | omega | (simp_all; done)) rfl rfl rfl
    · simp only [decide_eq_false_iff_not, decide_eq_true_eq] at c14
      refine sn_iconst C 2 (by decide) dX3_refusalToMove_17 ?_
      exact sn_iret C rfl hF dX3_refusalToMove_18 (by decide) (by decide) (by unfold zrMove; split <;> (try split) <;> (try split) <;> first | rfl | omega | (simp_all; done)) rfl rfl rfl
  · simp only [decide_eq_false_iff_not, decide_eq_true_eq] at c5
    refine sn_iconst C 1 (by decide) dX3_refusalToMove_8 ?_
    exact sn_iret C rfl hF dX3_refusalToMove_9 (by decide) (by decide) (by unfold zrMove; split <;> (try split) <;> (try split) <;> first | rfl | omega | (simp_all; done)) rfl rfl rfl

set_option maxRecDepth 100000 in
set_option maxHeartbeats 4000000 in
theorem c_X3_refusalToStart {l : Launch} (hl : l.stackTraces = false) {G : zG} {S : zS} {J : Int64} {E : UInt64} {n : Nat} (hn : S 26 0 = n) (hz : n ≤ 12) {t : Nat} (ht : S 25 4 = t) (ht4 : t ≤ 4) {x y : Nat} (hx : x < 2 ^ 32) (hy : y < 2 ^ 32) : nCR l G mX3_refusalToStart 1 0 0 [.ref 25, zi x, zi y] S J E (some (zi (zrStart n t x y))) S J E := by
  refine nCR.of hl (by decide) rfl (Nat.le_of_ble_eq_true rfl) (ls := [some (.ref 25), some (zi x), some (zi y)]) rfl (fun X C hF hX => ?_)
  subst hX
  refine sw_aload_0 C dX3_refusalToStart_0 ?_
  refine sw_iload_1 C dX3_refusalToStart_1 ?_
  refine sn_cV1r C vX3_hasListener lX3_68 rfl (by decide) rfl rfl dX3_refusalToStart_2 (Nat.le_of_ble_eq_true rfl) (c_X3_hasListener hl hn hz hx) (by decide) (by decide) (by decide) ?_
  refine sn_if_neB C 10 dX3_refusalToStart_5 (by decide) (fun c5 => ?_) (fun c5 => ?_)
  · simp only [decide_eq_false_iff_not, decide_eq_true_eq] at c5
    refine sw_iload_2 C dX3_refusalToStart_10 ?_
    refine sn_cS1r C vX5_isLevel lX3_65 dX3_refusalToStart_11 (Nat.le_of_ble_eq_true rfl) (c_X5_isLevel hl hy) (by decide) (by decide) (by decide) ?_
    refine sn_if_neB C 19 dX3_refusalToStart_14 (by decide) (fun c14 => ?_) (fun c14 => ?_)
    · simp only [decide_eq_false_iff_not, decide_eq_true_eq] at c14
      refine sw_aload_0 C dX3_refusalToStart_19 ?_
      refine sn_getI C fX3_31 rfl (by decide) rfl dX3_refusalToStart_20 ?_
      refine sn_iconst C 4 (by decide) dX3_refusalToStart_23 ?_
      refine sn_icmp_ge C 31 (by omega) (by omega) dX3_refusalToStart_24 (by decide) (fun c24 => ?_) (fun c24 => ?_)
      · refine sn_iconst C 3 (by decide) dX3_refusalToStart_31 ?_
        exact sn_iret C rfl hF dX3_refusalToStart_32 (by decide) (by decide) (by unfold zrStart; split <;> (try split) <;> (try split) <;> first | rfl | omega | (simp_all; done)) rfl rfl rfl
      · refine sn_iconst C 0 (by decide) dX3_refusalToStart_27 ?_
        refine sw_goto C 32 dX3_refusalToStart_28 (by decide) ?_
        exact sn_iret C rfl hF dX3_refusalToStart_32 (by decide) (by decide) (by unfold zrStart; split <;> (try split) <;> (try split) <;> first | rfl | omega | (simp_all; done)) rfl rfl rfl
    · simp only [decide_eq_false_iff_not, decide_eq_true_eq] at c14
      refine sn_iconst C 2 (by decide) dX3_refusalToStart_17 ?_
      exact sn_iret C rfl hF dX3_refusalToStart_18 (by decide) (by decide) (by unfold zrStart; split <;> (try split) <;> (try split) <;> first | rfl | omega | (simp_all; done)) rfl rfl rfl
  · simp only [decide_eq_false_iff_not, decide_eq_true_eq] at c5
    refine sn_iconst C 1 (by decide) dX3_refusalToStart_8 ?_
    exact sn_iret C rfl hF dX3_refusalToStart_9 (by decide) (by decide) (by unfold zrStart; split <;> (try split) <;> (try split) <;> first | rfl | omega | (simp_all; done)) rfl rfl rfl

set_option maxRecDepth 100000 in
set_option maxHeartbeats 4000000 in
theorem c_X3_refusalToConvert {l : Launch} (hl : l.stackTraces = false) {G : zG} {S : zS} {J : Int64} {E : UInt64} {n : Nat} (hn : S 26 0 = n) (hz : n ≤ 12) {t : Nat} (ht : S 25 4 = t) (ht4 : t ≤ 4) {x y : Nat} (hx : x < 2 ^ 32) (hy : y < 2 ^ 32) : nCR l G mX3_refusalToConvert 2 0 0 [.ref 25, zi x, zi y] S J E (some (zi (zrConv S n t x y))) S J E := by
  refine nCR.of hl (by decide) rfl (Nat.le_of_ble_eq_true rfl) (ls := [some (.ref 25), some (zi x), some (zi y)]) rfl (fun X C hF hX => ?_)
  subst hX
  refine sw_aload_0 C dX3_refusalToConvert_0 ?_
  refine sw_iload_1 C dX3_refusalToConvert_1 ?_
  refine sn_cV1r C vX3_hasRumour lX3_79 rfl (by decide) rfl rfl dX3_refusalToConvert_2 (Nat.le_of_ble_eq_true rfl) (c_X3_hasRumour hl ht ht4 hx) (by decide) (by decide) (by decide) ?_
  refine sn_if_eqB C 16 dX3_refusalToConvert_5 (by decide) (fun c5 => ?_) (fun c5 => ?_)
  · simp only [decide_eq_false_iff_not, decide_eq_true_eq] at c5
    refine sn_iconst C 1 (by decide) dX3_refusalToConvert_16 ?_
    exact sn_iret C rfl hF dX3_refusalToConvert_17 (by decide) (by decide) (by unfold zrConv; split <;> (try split) <;> (try split) <;> first | rfl | omega | (simp_all; done)) rfl rfl rfl
  · simp only [decide_eq_false_iff_not, decide_eq_true_eq] at c5
    refine sw_aload_0 C dX3_refusalToConvert_8 ?_
    refine sw_iload_2 C dX3_refusalToConvert_9 ?_
    refine sn_cV1r C vX3_hasListener lX3_68 rfl (by decide) rfl rfl dX3_refusalToConvert_10 (Nat.le_of_ble_eq_true rfl) (c_X3_hasListener hl hn hz hy) (by decide) (by decide) (by decide) ?_
    refine sn_if_neB C 18 dX3_refusalToConvert_13 (by decide) (fun c13 => ?_) (fun c13 => ?_)
    · simp only [decide_eq_false_iff_not, decide_eq_true_eq] at c13
      refine sw_aload_0 C dX3_refusalToConvert_18 ?_
      refine sw_getR C (o' := 32) fX3_27 rfl (by decide) rfl rfl (by decide) dX3_refusalToConvert_19 ?_
      refine sw_iload_1 C dX3_refusalToConvert_22 ?_
      refine sn_aald C (o' := (33 + 2 * x)) rfl (by decide) (by decide) (by omega) (by decide) (zP32 (by omega)) (by omega) dX3_refusalToConvert_23 ?_
      refine sn_getI C fX3_82 (zRu0 (by omega)).1 (zRu0 (by omega)).2.1 rfl dX3_refusalToConvert_24 ?_
      refine sw_iload_2 C dX3_refusalToConvert_27 ?_
      refine sn_cS2r C vX5_contains lX3_85 dX3_refusalToConvert_28 (Nat.le_of_ble_eq_true rfl) (c_X5_contains hl (by omega)) (by decide) (by decide) (by decide) ?_
      refine sn_if_eqB C 38 dX3_refusalToConvert_31 (by decide) (fun c31 => ?_) (fun c31 => ?_)
      · refine sn_iconst C 3 (by decide) dX3_refusalToConvert_38 ?_
        exact sn_iret C rfl hF dX3_refusalToConvert_39 (by decide) (by decide) (by unfold zrConv; split <;> (try split) <;> (try split) <;> first | rfl | omega | (simp_all; done)) rfl rfl rfl
      · refine sn_iconst C 0 (by decide) dX3_refusalToConvert_34 ?_
        refine sw_goto C 39 dX3_refusalToConvert_35 (by decide) ?_
        exact sn_iret C rfl hF dX3_refusalToConvert_39 (by decide) (by decide) (by unfold zrConv; split <;> (try split) <;> (try split) <;> first | rfl | omega | (simp_all; done)) rfl rfl rfl
    · simp only [decide_eq_false_iff_not, decide_eq_true_eq] at c13
      refine sn_iconst C 1 (by decide) dX3_refusalToConvert_16 ?_
      exact sn_iret C rfl hF dX3_refusalToConvert_17 (by decide) (by decide) (by unfold zrConv; split <;> (try split) <;> (try split) <;> first | rfl | omega | (simp_all; done)) rfl rfl rfl

set_option maxRecDepth 100000 in
set_option maxHeartbeats 4000000 in
theorem c_X3_refusalToSilence {l : Launch} (hl : l.stackTraces = false) {G : zG} {S : zS} {J : Int64} {E : UInt64} {t : Nat} (ht : S 25 4 = t) (ht4 : t ≤ 4) {x : Nat} (hx : x < 2 ^ 32) (hal : ∀ r, r < 4 → S (33 + 2 * r) 2 ≤ 1) : nCR l G mX3_refusalToSilence 1 0 0 [.ref 25, zi x] S J E (some (zi (zrSil S t x))) S J E := by
  refine nCR.of hl (by decide) rfl (Nat.le_of_ble_eq_true rfl) (ls := [some (.ref 25), some (zi x)]) rfl (fun X C hF hX => ?_)
  subst hX
  refine sw_aload_0 C dX3_refusalToSilence_0 ?_
  refine sw_iload_1 C dX3_refusalToSilence_1 ?_
  refine sn_cV1r C vX3_hasRumour lX3_79 rfl (by decide) rfl rfl dX3_refusalToSilence_2 (Nat.le_of_ble_eq_true rfl) (c_X3_hasRumour hl ht ht4 hx) (by decide) (by decide) (by decide) ?_
  refine sn_if_neB C 10 dX3_refusalToSilence_5 (by decide) (fun c5 => ?_) (fun c5 => ?_)
  · simp only [decide_eq_false_iff_not, decide_eq_true_eq] at c5
    refine sw_aload_0 C dX3_refusalToSilence_10 ?_
    refine sw_getR C (o' := 32) fX3_27 rfl (by decide) rfl rfl (by decide) dX3_refusalToSilence_11 ?_
    refine sw_iload_1 C dX3_refusalToSilence_14 ?_
    refine sn_aald C (o' := (33 + 2 * x)) rfl (by decide) (by decide) (by omega) (by decide) (zP32 (by omega)) (by omega) dX3_refusalToSilence_15 ?_
    refine sn_getI C fX3_94 (zRu0 (by omega)).1 (zRu0 (by omega)).2.1 rfl dX3_refusalToSilence_16 ?_
    refine sn_if_eq C 26 (by have := hal x (by omega); omega) dX3_refusalToSilence_19 (by decide) (fun c19 => ?_) (fun c19 => ?_)
    · refine sn_iconst C 3 (by decide) dX3_refusalToSilence_26 ?_
      exact sn_iret C rfl hF dX3_refusalToSilence_27 (by decide) (by decide) (by unfold zrSil; split <;> (try split) <;> (try split) <;> first | rfl | omega | (simp_all; done)) rfl rfl rfl
    · refine sn_iconst C 0 (by decide) dX3_refusalToSilence_22 ?_
      refine sw_goto C 27 dX3_refusalToSilence_23 (by decide) ?_
      exact sn_iret C rfl hF dX3_refusalToSilence_27 (by decide) (by decide) (by unfold zrSil; split <;> (try split) <;> (try split) <;> first | rfl | omega | (simp_all; done)) rfl rfl rfl
  · simp only [decide_eq_false_iff_not, decide_eq_true_eq] at c5
    refine sn_iconst C 1 (by decide) dX3_refusalToSilence_8 ?_
    exact sn_iret C rfl hF dX3_refusalToSilence_9 (by decide) (by decide) (by unfold zrSil; split <;> (try split) <;> (try split) <;> first | rfl | omega | (simp_all; done)) rfl rfl rfl

set_option maxRecDepth 100000 in
set_option maxHeartbeats 4000000 in
theorem c_X3_refusalToRevive {l : Launch} (hl : l.stackTraces = false) {G : zG} {S : zS} {J : Int64} {E : UInt64} {t : Nat} (ht : S 25 4 = t) (ht4 : t ≤ 4) {x y : Nat} (hx : x < 2 ^ 32) (hy : y < 2 ^ 32) (hal : ∀ r, r < 4 → S (33 + 2 * r) 2 ≤ 1) : nCR l G mX3_refusalToRevive 1 0 0 [.ref 25, zi x, zi y] S J E (some (zi (zrRev S t x y))) S J E := by
  refine nCR.of hl (by decide) rfl (Nat.le_of_ble_eq_true rfl) (ls := [some (.ref 25), some (zi x), some (zi y)]) rfl (fun X C hF hX => ?_)
  subst hX
  refine sw_aload_0 C dX3_refusalToRevive_0 ?_
  refine sw_iload_1 C dX3_refusalToRevive_1 ?_
  refine sn_cV1r C vX3_hasRumour lX3_79 rfl (by decide) rfl rfl dX3_refusalToRevive_2 (Nat.le_of_ble_eq_true rfl) (c_X3_hasRumour hl ht ht4 hx) (by decide) (by decide) (by decide) ?_
  refine sn_if_neB C 10 dX3_refusalToRevive_5 (by decide) (fun c5 => ?_) (fun c5 => ?_)
  · simp only [decide_eq_false_iff_not, decide_eq_true_eq] at c5
    refine sw_iload_2 C dX3_refusalToRevive_10 ?_
    refine sn_cS1r C vX5_isLevel lX3_65 dX3_refusalToRevive_11 (Nat.le_of_ble_eq_true rfl) (c_X5_isLevel hl hy) (by decide) (by decide) (by decide) ?_
    refine sn_if_neB C 19 dX3_refusalToRevive_14 (by decide) (fun c14 => ?_) (fun c14 => ?_)
    · simp only [decide_eq_false_iff_not, decide_eq_true_eq] at c14
      refine sw_aload_0 C dX3_refusalToRevive_19 ?_
      refine sw_getR C (o' := 32) fX3_27 rfl (by decide) rfl rfl (by decide) dX3_refusalToRevive_20 ?_
      refine sw_iload_1 C dX3_refusalToRevive_23 ?_
      refine sn_aald C (o' := (33 + 2 * x)) rfl (by decide) (by decide) (by omega) (by decide) (zP32 (by omega)) (by omega) dX3_refusalToRevive_24 ?_
      refine sn_getI C fX3_94 (zRu0 (by omega)).1 (zRu0 (by omega)).2.1 rfl dX3_refusalToRevive_25 ?_
      refine sn_if_eq C 35 (by have := hal x (by omega); omega) dX3_refusalToRevive_28 (by decide) (fun c28 => ?_) (fun c28 => ?_)
      · refine sn_iconst C 0 (by decide) dX3_refusalToRevive_35 ?_
        exact sn_iret C rfl hF dX3_refusalToRevive_36 (by decide) (by decide) (by unfold zrRev; split <;> (try split) <;> (try split) <;> first | rfl | omega | (simp_all; done)) rfl rfl rfl
      · refine sn_iconst C 3 (by decide) dX3_refusalToRevive_31 ?_
        refine sw_goto C 36 dX3_refusalToRevive_32 (by decide) ?_
        exact sn_iret C rfl hF dX3_refusalToRevive_36 (by decide) (by decide) (by unfold zrRev; split <;> (try split) <;> (try split) <;> first | rfl | omega | (simp_all; done)) rfl rfl rfl
    · simp only [decide_eq_false_iff_not, decide_eq_true_eq] at c14
      refine sn_iconst C 2 (by decide) dX3_refusalToRevive_17 ?_
      exact sn_iret C rfl hF dX3_refusalToRevive_18 (by decide) (by decide) (by unfold zrRev; split <;> (try split) <;> (try split) <;> first | rfl | omega | (simp_all; done)) rfl rfl rfl
  · simp only [decide_eq_false_iff_not, decide_eq_true_eq] at c5
    refine sn_iconst C 1 (by decide) dX3_refusalToRevive_8 ?_
    exact sn_iret C rfl hF dX3_refusalToRevive_9 (by decide) (by decide) (by unfold zrRev; split <;> (try split) <;> (try split) <;> first | rfl | omega | (simp_all; done)) rfl rfl rfl

def zAddL (S : zS) (n x y : Nat) : zS := zU (zU (zU S 30 n x) 31 n y) 26 0 (n + 1)
def zMoveL (S : zS) (x y : Nat) : zS := zU S 30 x y
def zBegin (S : zS) (t x y : Nat) : zS := zU (zCome S (33 + 2 * t) x y (S 25 5)) 25 4 (t + 1)
def zConvert (S : zS) (r e : Nat) : Nat × zS :=
  if S 31 e ≤ S (33 + 2 * r) 1 then (0, S) else
    (1, zU (zU (zU S (33 + 2 * r) 3 (S (33 + 2 * r) 3 &&& (1 * 2 ^ e ^^^ 4294967295))) (33 + 2 * r) 4 (S (33 + 2 * r) 4 ||| 1 * 2 ^ e)) 25 7 (S 25 7 + 1))

set_option maxRecDepth 100000 in
set_option maxHeartbeats 4000000 in
theorem c_X3_add {l : Launch} (hl : l.stackTraces = false) {G : zG} {S : zS} {J : Int64} {E : UInt64} {n : Nat} (hn : S 26 0 = n) (hz : n < 12) {x y : Nat} : nCR l G mX3_add 0 0 0 [.ref 25, zi x, zi y] S J E (some (zi n)) (zAddL S n x y) J E := by
  refine nCR.of hl (by decide) rfl (Nat.le_of_ble_eq_true rfl) (ls := [some (.ref 25), some (zi x), some (zi y), none]) rfl (fun X C hF hX => ?_)
  subst hX
  refine sw_aload_0 C dX3_add_0 ?_
  refine sw_getR C (o' := 26) fX3_12 rfl (by decide) rfl rfl (by decide) dX3_add_1 ?_
  refine sn_getI C fX3_58 rfl (by decide) rfl dX3_add_4 ?_
  rw [hn]
  refine sw_istore_3 C rfl dX3_add_7 ?_
  refine sw_aload_0 C dX3_add_8 ?_
  refine sw_getR C (o' := 30) fX3_18 rfl (by decide) rfl rfl (by decide) dX3_add_9 ?_
  refine sw_iload_3 C dX3_add_12 ?_
  refine sw_iload_1 C dX3_add_13 ?_
  refine sn_iast C rfl (by decide) (by omega) (by decide) dX3_add_14 ?_
  refine sw_aload_0 C dX3_add_15 ?_
  refine sw_getR C (o' := 31) fX3_22 rfl (by decide) rfl rfl (by decide) dX3_add_16 ?_
  refine sw_iload_3 C dX3_add_19 ?_
  refine sw_iload_2 C dX3_add_20 ?_
  refine sn_iast C rfl (by decide) (by omega) (by decide) dX3_add_21 ?_
  refine sw_aload_0 C dX3_add_22 ?_
  refine sw_getR C (o' := 26) fX3_12 rfl (by decide) rfl rfl (by decide) dX3_add_23 ?_
  refine sw_dup C rfl dX3_add_26 ?_
  refine sn_getI C fX3_58 rfl (by decide) rfl dX3_add_27 ?_
  refine sn_iconst C 1 (by decide) dX3_add_30 ?_
  refine sn_iadd C dX3_add_31 ?_
  refine sn_putI C fX3_58 rfl (by decide) rfl rfl dX3_add_32 ?_
  refine sw_iload_3 C dX3_add_35 ?_
  exact sn_iret C rfl hF dX3_add_36 (by decide) (by decide) (by rfl) (by unfold zAddL; rw [← hn]; rfl) rfl rfl

set_option maxRecDepth 100000 in
set_option maxHeartbeats 4000000 in
theorem c_X3_move {l : Launch} (hl : l.stackTraces = false) {G : zG} {S : zS} {J : Int64} {E : UInt64} {x y : Nat} (hx : x < 12) : nCR l G mX3_move 0 0 0 [.ref 25, zi x, zi y] S J E (some (zi (S 30 x))) (zMoveL S x y) J E := by
  refine nCR.of hl (by decide) rfl (Nat.le_of_ble_eq_true rfl) (ls := [some (.ref 25), some (zi x), some (zi y), none]) rfl (fun X C hF hX => ?_)
  subst hX
  refine sw_aload_0 C dX3_move_0 ?_
  refine sw_getR C (o' := 30) fX3_18 rfl (by decide) rfl rfl (by decide) dX3_move_1 ?_
  refine sw_iload_1 C dX3_move_4 ?_
  refine sn_iald C rfl (by decide) (by omega) (by decide) dX3_move_5 ?_
  refine sw_istore_3 C rfl dX3_move_6 ?_
  refine sw_aload_0 C dX3_move_7 ?_
  refine sw_getR C (o' := 30) fX3_18 rfl (by decide) rfl rfl (by decide) dX3_move_8 ?_
  refine sw_iload_1 C dX3_move_11 ?_
  refine sw_iload_2 C dX3_move_12 ?_
  refine sn_iast C rfl (by decide) (by omega) (by decide) dX3_move_13 ?_
  refine sw_iload_3 C dX3_move_14 ?_
  exact sn_iret C rfl hF dX3_move_15 (by decide) (by decide) (by first | rfl | (simp [*]; done)) rfl rfl rfl
