theorem sn_dret {G : zG} {X : zX} {M : zM} {d mc ms a b pc : Nat} {ls : List (Option Value)} {S : zS} {J : Int64} {E : UInt64} (C : zOK G X M d mc ms) {v : UInt64} {S' : zS} {J' : Int64} {E' : UInt64} (hr : M.2.2.2 = some .double) (hF : zFin G X mc ms (some (.double v)) (zIn S') J' E') (hd : decode M.2.1 pc = .ok (.dreturn, 1)) (ha : a ≤ mc) (hb : b ≤ ms) (e2 : S = S') (e3 : J = J') (e4 : E = E') : SN G X a b pc ls [.double v] S J E := by
  obtain ⟨p, l, e, R, s, m, args, below, meth, c, Q⟩ := X
  subst e2; subst e3; subst e4
  intro H locs arr hl hn hR hS
  have hQ : Q = MQ below (zQc G (some (.double v)) (zIn S) J E) args s mc ms (zA G) := hF
  subst hQ
  refine W.widen ha hb ?_
  exact W.dret C.1 C.2.1 (C.2.2.2.2.2.1.trans hr) (fun t ht hw => ⟨rfl, by rw [ht]; exact hR, hS.F ht⟩) (fun q hq => hS.2.2 q hq) hd C.2.2.2.2.1
theorem sn_fret {G : zG} {X : zX} {M : zM} {d mc ms a b pc : Nat} {ls : List (Option Value)} {S : zS} {J : Int64} {E : UInt64} (C : zOK G X M d mc ms) {v : UInt32} {S' : zS} {J' : Int64} {E' : UInt64} (hr : M.2.2.2 = some .float) (hF : zFin G X mc ms (some (.float v)) (zIn S') J' E') (hd : decode M.2.1 pc = .ok (.freturn, 1)) (ha : a ≤ mc) (hb : b ≤ ms) (e2 : S = S') (e3 : J = J') (e4 : E = E') : SN G X a b pc ls [.float v] S J E := by
  obtain ⟨p, l, e, R, s, m, args, below, meth, c, Q⟩ := X
  subst e2; subst e3; subst e4
  intro H locs arr hl hn hR hS
  have hQ : Q = MQ below (zQc G (some (.float v)) (zIn S) J E) args s mc ms (zA G) := hF
  subst hQ
  refine W.widen ha hb ?_
  exact W.fret C.1 C.2.1 (C.2.2.2.2.2.1.trans hr) (fun t ht hw => ⟨rfl, by rw [ht]; exact hR, hS.F ht⟩) (fun q hq => hS.2.2 q hq) hd C.2.2.2.2.1

set_option maxRecDepth 100000 in
set_option maxHeartbeats 4000000 in
theorem c_X5_foreseenHearing {l : Launch} (hl : l.stackTraces = false) {G : zG} {S : zS} {J : Int64} {E : UInt64} {n t : Nat} (hw : zNow S n t) {o : Nat} (hr : zRu o) (ho3 : o ≠ 3) (hb : zRb S o) {e : Nat} (he : e < 12) : nCR l G mX5_foreseenHearing 5 0 0 [.ref 0, .ref o, zi e] S J E (some (zi (zFore n e 40 1 (zRcp S 3 o)).1)) (zFore n e 40 1 (zRcp S 3 o)).2 J E := by
  refine nCR.of hl (by decide) rfl (Nat.le_of_ble_eq_true rfl) (ls := [some (.ref 0), some (.ref o), some (zi e), none]) rfl (fun X C hF hX => ?_)
  subst hX
  obtain ⟨hn, hz, ht, ht4, hnb, hhv, hdb, hru⟩ := id hw
  refine sw_aload_0 C dX5_foreseenHearing_0 ?_
  refine sw_getR C (o' := 3) fX5_32 rfl (by decide) rfl rfl (by decide) dX5_foreseenHearing_1 ?_
  refine sw_aload_1 C dX5_foreseenHearing_4 ?_
  refine sn_cV1v C vX2_copyFrom lX5_188 rfl (by decide) rfl rfl dX5_foreseenHearing_5 (Nat.le_of_ble_eq_true rfl) (c_X2_copyFrom hl zRu3 hr ho3 hb.2.1) (by decide) (by decide) (by decide) ?_
  refine sn_iconst C 1 (by decide) dX5_foreseenHearing_8 ?_
  refine sw_istore_3 C rfl dX5_foreseenHearing_9 ?_
  have L10 : ∀ (k i : Nat) (q : zS), i ≤ 40 → (zNow q n t) → (zRb q 3) → (zFore n e (40 - i) (i + 1) q = zFore n e 40 1 (zRcp S 3 o)) → 40 - i < k → SN G X 0 0 10 [some (.ref 0), some (.ref o), some (zi e), some (zi (i + 1))] [] q J E := by
    intro k
    induction k with
    | zero => intro i q _ _ _ _ hk; exact absurd hk (by omega)
    | succ k ih10 =>
      intro i q hi hwq hbq hq hk
      obtain ⟨hn2, hz2, ht2, ht42, hnb2, hhv2, hdb2, hru2⟩ := id hwq
      obtain ⟨g1, g2, g3, g4⟩ := id hbq
      refine sw_iload_3 C dX5_foreseenHearing_10 ?_
      refine sn_bipush C 40 (by decide) dX5_foreseenHearing_11 ?_
      refine sn_icmp_gt C 50 (by omega) (by omega) dX5_foreseenHearing_13 (by decide) (fun c13 => ?_) (fun c13 => ?_)
      · refine sn_iconst C 4294967295 (by decide) dX5_foreseenHearing_50 ?_
        exact sn_iret C rfl hF dX5_foreseenHearing_51 (by decide) (by decide) (by rw [show 40 - i = 0 from by omega] at hq; rw [← hq]; rfl) (by rw [show 40 - i = 0 from by omega] at hq; rw [← hq]; rfl) rfl rfl
      · refine sw_aload_0 C dX5_foreseenHearing_16 ?_
        refine sw_getR C (o' := 25) fX5_10 rfl (by decide) rfl rfl (by decide) dX5_foreseenHearing_17 ?_
        refine sw_aload_0 C dX5_foreseenHearing_20 ?_
        refine sw_getR C (o' := 3) fX5_32 rfl (by decide) rfl rfl (by decide) dX5_foreseenHearing_21 ?_
        refine sn_cV1r C vX3_spreadOnce lX5_192 rfl (by decide) rfl rfl dX5_foreseenHearing_24 (Nat.le_of_ble_eq_true rfl) (c_X3_spreadOnce hl hn2 hz2 zRu3 (by decide) (by decide) hnb2 hdb2 g1 g2 g3 g4) (by decide) (by decide) (by decide) ?_
        refine sw_pop C rfl dX5_foreseenHearing_27 ?_
        refine sw_aload_0 C dX5_foreseenHearing_28 ?_
        refine sw_getR C (o' := 3) fX5_32 rfl (by decide) rfl rfl (by decide) dX5_foreseenHearing_29 ?_
        refine sn_cV0r C vX2_aware lX5_142 rfl (by decide) rfl rfl dX5_foreseenHearing_32 (Nat.le_of_ble_eq_true rfl) (c_X2_aware hl zRu3) (by decide) (by decide) (by decide) ?_
        refine sw_iload_2 C dX5_foreseenHearing_35 ?_
        refine sn_cS2r C vX5_contains lX5_136 dX5_foreseenHearing_36 (Nat.le_of_ble_eq_true rfl) (c_X5_contains hl (by omega)) (by decide) (by decide) (by decide) ?_
        refine sn_if_eqB C 44 dX5_foreseenHearing_39 (by decide) (fun c39 => ?_) (fun c39 => ?_)
        · refine sn_iinc_3 C rfl dX5_foreseenHearing_44 ?_
          refine sw_goto C 10 dX5_foreseenHearing_47 (by decide) ?_
          exact ih10 (i + 1) _ (by omega) (zSpread_now3 hwq) (zSpread_rb hz hbq) (by rw [show 40 - i = 40 - (i + 1) + 1 from by omega, zFore, if_neg (by simpa using c39)] at hq; exact hq) (by omega)
        · rw [show 40 - i = 40 - (i + 1) + 1 from by omega, zFore, if_pos (by simpa using c39)] at hq
          refine sw_iload_3 C dX5_foreseenHearing_42 ?_
          exact sn_iret C rfl hF dX5_foreseenHearing_43 (by decide) (by decide) (by rw [← hq]) (by rw [← hq]) rfl rfl
  exact L10 _ 0 _ (by omega) (zRcp_now3 hw) (zRcp_rb3 hb ho3) rfl (Nat.lt_succ_self _)

set_option maxRecDepth 100000 in
set_option maxHeartbeats 4000000 in
theorem c_X5_roundsUntilHeard {l : Launch} (hl : l.stackTraces = false) {G : zG} {S : zS} {J : Int64} {E : UInt64} {n t : Nat} (hw : zNow S n t) {x : Nat} (hx : x < 2 ^ 32) (hxt : x < t) {y : Nat} (hy : y < 2 ^ 32) (hyl : y < n) (ha : (S (33 + 2 * x) 3 ||| S (33 + 2 * x) 4).testBit y = false) (hb : (zFore n y 40 1 (zRcp S 3 (33 + 2 * x))).1 < 2 ^ 32) (h0 : ¬ (zFore n y 40 1 (zRcp S 3 (33 + 2 * x))).1 = 4294967295) : nCR l G mX5_roundsUntilHeard 6 0 0 [.ref 0, zi x, zi y] S J E (some (zi (zFore n y 40 1 (zRcp S 3 (33 + 2 * x))).1)) (zFore n y 40 1 (zRcp S 3 (33 + 2 * x))).2 J E := by
  refine nCR.of hl (by decide) rfl (Nat.le_of_ble_eq_true rfl) (ls := [some (.ref 0), some (zi x), some (zi y)]) rfl (fun X C hF hX => ?_)
  subst hX
  obtain ⟨hn, hz, ht, ht4, hnb, hhv, hdb, hru⟩ := id hw
  refine sw_aload_0 C dX5_roundsUntilHeard_0 ?_
  refine sw_iload_1 C dX5_roundsUntilHeard_1 ?_
  refine sn_cV1v C vX5_needRumour lX5_117 rfl (by decide) rfl rfl dX5_roundsUntilHeard_2 (Nat.le_of_ble_eq_true rfl) (c_X5_needRumour hl ht ht4 hx hxt) (by decide) (by decide) (by decide) ?_
  refine sw_aload_0 C dX5_roundsUntilHeard_5 ?_
  refine sw_iload_2 C dX5_roundsUntilHeard_6 ?_
  refine sn_cV1v C vX5_needListener lX5_74 rfl (by decide) rfl rfl dX5_roundsUntilHeard_7 (Nat.le_of_ble_eq_true rfl) (c_X5_needListener hl hn hz hy hyl) (by decide) (by decide) (by decide) ?_
  refine sw_aload_0 C dX5_roundsUntilHeard_10 ?_
  refine sw_getR C (o' := 25) fX5_10 rfl (by decide) rfl rfl (by decide) dX5_roundsUntilHeard_11 ?_
  refine sw_getR C (o' := 32) fX5_120 rfl (by decide) rfl rfl (by decide) dX5_roundsUntilHeard_14 ?_
  refine sw_iload_1 C dX5_roundsUntilHeard_17 ?_
  refine sn_aald C (o' := (33 + 2 * x)) rfl (by decide) (by decide) (by omega) (by decide) (zP32 (by omega)) (by omega) dX5_roundsUntilHeard_18 ?_
  refine sn_cV0r C vX2_aware lX5_142 (zRu0 (by omega)).1 (zRu0 (by omega)).2.1 rfl rfl dX5_roundsUntilHeard_19 (Nat.le_of_ble_eq_true rfl) (c_X2_aware hl (zRu0 (by omega))) (by decide) (by decide) (by decide) ?_
  refine sw_iload_2 C dX5_roundsUntilHeard_22 ?_
  refine sn_cS2r C vX5_contains lX5_136 dX5_roundsUntilHeard_23 (Nat.le_of_ble_eq_true rfl) (c_X5_contains hl (by omega)) (by decide) (by decide) (by decide) ?_
  refine sn_if_eqB C 39 dX5_roundsUntilHeard_26 (by decide) (fun c26 => ?_) (fun c26 => ?_)
  · refine sw_aload_0 C dX5_roundsUntilHeard_39 ?_
    refine sw_aload_0 C dX5_roundsUntilHeard_40 ?_
    refine sw_getR C (o' := 25) fX5_10 rfl (by decide) rfl rfl (by decide) dX5_roundsUntilHeard_41 ?_
    refine sw_getR C (o' := 32) fX5_120 rfl (by decide) rfl rfl (by decide) dX5_roundsUntilHeard_44 ?_
    refine sw_iload_1 C dX5_roundsUntilHeard_47 ?_
    refine sn_aald C (o' := (33 + 2 * x)) rfl (by decide) (by decide) (by omega) (by decide) (zP32 (by omega)) (by omega) dX5_roundsUntilHeard_48 ?_
    refine sw_iload_2 C dX5_roundsUntilHeard_49 ?_
    refine sn_cV2r C vX5_foreseenHearing lX5_179 rfl (by decide) rfl rfl dX5_roundsUntilHeard_50 (Nat.le_of_ble_eq_true rfl) (c_X5_foreseenHearing hl hw (zRu0 (by omega)) (by omega) (hru x (by omega)) (by omega)) (by decide) (by decide) (by decide) ?_
    refine sn_cS1r C vX5_found lX5_164 dX5_roundsUntilHeard_53 (Nat.le_of_ble_eq_true rfl) (c_X5_found hl hb h0) (by decide) (by decide) (by decide) ?_
    exact sn_iret C rfl hF dX5_roundsUntilHeard_56 (by decide) (by decide) (by first | rfl | (simp [*]; done)) rfl rfl rfl
  · rw [ha] at c26; cases c26

set_option maxRecDepth 100000 in
set_option maxHeartbeats 4000000 in
theorem t1_X5_roundsUntilHeard {l : Launch} (hl : l.stackTraces = false) {G : zG} {S : zS} {J : Int64} {E : UInt64} {n t : Nat} (hw : zNow S n t) {x : Nat} (hx : x < 2 ^ 32) (hxt : ¬ x < t) {y : Nat} (hy : y < 2 ^ 32) : nCT l G mX5_roundsUntilHeard 6 1 6 [.ref 0, zi x, zi y] S J E "java/lang/IndexOutOfBoundsException" S J E := by
  refine nCT.of hl (by decide) rfl (Nat.le_of_ble_eq_true rfl) (ls := [some (.ref 0), some (zi x), some (zi y)]) rfl (fun X C hF hX => ?_)
  subst hX
  obtain ⟨hn, hz, ht, ht4, hnb, hhv, hdb, hru⟩ := id hw
  refine sw_aload_0 C dX5_roundsUntilHeard_0 ?_
  refine sw_iload_1 C dX5_roundsUntilHeard_1 ?_
  exact sn_cV1T C vX5_needRumour kX5_117 rfl (by decide) rfl rfl dX5_roundsUntilHeard_2 (Nat.le_of_ble_eq_true rfl) (t_X5_needRumour hl ht ht4 hx hxt) (by decide) (by decide) (by decide) hF

set_option maxRecDepth 100000 in
set_option maxHeartbeats 4000000 in
theorem t2_X5_roundsUntilHeard {l : Launch} (hl : l.stackTraces = false) {G : zG} {S : zS} {J : Int64} {E : UInt64} {n t : Nat} (hw : zNow S n t) {x : Nat} (hx : x < 2 ^ 32) (hxt : x < t) {y : Nat} (hy : y < 2 ^ 32) (hyl : ¬ y < n) : nCT l G mX5_roundsUntilHeard 6 1 6 [.ref 0, zi x, zi y] S J E "java/lang/IndexOutOfBoundsException" S J E := by
  refine nCT.of hl (by decide) rfl (Nat.le_of_ble_eq_true rfl) (ls := [some (.ref 0), some (zi x), some (zi y)]) rfl (fun X C hF hX => ?_)
  subst hX
  obtain ⟨hn, hz, ht, ht4, hnb, hhv, hdb, hru⟩ := id hw
  refine sw_aload_0 C dX5_roundsUntilHeard_0 ?_
  refine sw_iload_1 C dX5_roundsUntilHeard_1 ?_
  refine sn_cV1v C vX5_needRumour lX5_117 rfl (by decide) rfl rfl dX5_roundsUntilHeard_2 (Nat.le_of_ble_eq_true rfl) (c_X5_needRumour hl ht ht4 hx hxt) (by decide) (by decide) (by decide) ?_
  refine sw_aload_0 C dX5_roundsUntilHeard_5 ?_
  refine sw_iload_2 C dX5_roundsUntilHeard_6 ?_
  exact sn_cV1T C vX5_needListener kX5_74 rfl (by decide) rfl rfl dX5_roundsUntilHeard_7 (Nat.le_of_ble_eq_true rfl) (t_X5_needListener hl hn hz hy hyl) (by decide) (by decide) (by decide) hF

set_option maxRecDepth 100000 in
set_option maxHeartbeats 4000000 in
theorem t3_X5_roundsUntilHeard {l : Launch} (hl : l.stackTraces = false) {G : zG} {S : zS} {J : Int64} {E : UInt64} {n t : Nat} (hw : zNow S n t) {x : Nat} (hx : x < 2 ^ 32) (hxt : x < t) {y : Nat} (hy : y < 2 ^ 32) (hyl : y < n) (ha : (S (33 + 2 * x) 3 ||| S (33 + 2 * x) 4).testBit y = true) : nCT l G mX5_roundsUntilHeard 6 1 6 [.ref 0, zi x, zi y] S J E "java/lang/IllegalStateException" S J E := by
  refine nCT.of hl (by decide) rfl (Nat.le_of_ble_eq_true rfl) (ls := [some (.ref 0), some (zi x), some (zi y)]) rfl (fun X C hF hX => ?_)
  subst hX
  obtain ⟨hn, hz, ht, ht4, hnb, hhv, hdb, hru⟩ := id hw
  refine sw_aload_0 C dX5_roundsUntilHeard_0 ?_
  refine sw_iload_1 C dX5_roundsUntilHeard_1 ?_
  refine sn_cV1v C vX5_needRumour lX5_117 rfl (by decide) rfl rfl dX5_roundsUntilHeard_2 (Nat.le_of_ble_eq_true rfl) (c_X5_needRumour hl ht ht4 hx hxt) (by decide) (by decide) (by decide) ?_
  refine sw_aload_0 C dX5_roundsUntilHeard_5 ?_
  refine sw_iload_2 C dX5_roundsUntilHeard_6 ?_
  refine sn_cV1v C vX5_needListener lX5_74 rfl (by decide) rfl rfl dX5_roundsUntilHeard_7 (Nat.le_of_ble_eq_true rfl) (c_X5_needListener hl hn hz hy hyl) (by decide) (by decide) (by decide) ?_
  refine sw_aload_0 C dX5_roundsUntilHeard_10 ?_
  refine sw_getR C (o' := 25) fX5_10 rfl (by decide) rfl rfl (by decide) dX5_roundsUntilHeard_11 ?_
  refine sw_getR C (o' := 32) fX5_120 rfl (by decide) rfl rfl (by decide) dX5_roundsUntilHeard_14 ?_
  refine sw_iload_1 C dX5_roundsUntilHeard_17 ?_
  refine sn_aald C (o' := (33 + 2 * x)) rfl (by decide) (by decide) (by omega) (by decide) (zP32 (by omega)) (by omega) dX5_roundsUntilHeard_18 ?_
  refine sn_cV0r C vX2_aware lX5_142 (zRu0 (by omega)).1 (zRu0 (by omega)).2.1 rfl rfl dX5_roundsUntilHeard_19 (Nat.le_of_ble_eq_true rfl) (c_X2_aware hl (zRu0 (by omega))) (by decide) (by decide) (by decide) ?_
  refine sw_iload_2 C dX5_roundsUntilHeard_22 ?_
  refine sn_cS2r C vX5_contains lX5_136 dX5_roundsUntilHeard_23 (Nat.le_of_ble_eq_true rfl) (c_X5_contains hl (by omega)) (by decide) (by decide) (by decide) ?_
  refine sn_if_eqB C 39 dX5_roundsUntilHeard_26 (by decide) (fun c26 => ?_) (fun c26 => ?_)
  · rw [ha] at c26; cases c26
  · exact sw_throw C (text := "the listener is not unaware of the rumour") zThS qX5_174 (by decide +kernel) hF dX5_roundsUntilHeard_29 dX5_roundsUntilHeard_32 dX5_roundsUntilHeard_33 dX5_roundsUntilHeard_35 dX5_roundsUntilHeard_38 (by decide) (Nat.le_of_ble_eq_true rfl) (by decide) (by decide)

set_option maxRecDepth 100000 in
set_option maxHeartbeats 4000000 in
theorem t4_X5_roundsUntilHeard {l : Launch} (hl : l.stackTraces = false) {G : zG} {S : zS} {J : Int64} {E : UInt64} {n t : Nat} (hw : zNow S n t) {x : Nat} (hx : x < 2 ^ 32) (hxt : x < t) {y : Nat} (hy : y < 2 ^ 32) (hyl : y < n) (ha : (S (33 + 2 * x) 3 ||| S (33 + 2 * x) 4).testBit y = false) (h0 : (zFore n y 40 1 (zRcp S 3 (33 + 2 * x))).1 = 4294967295) : nCT l G mX5_roundsUntilHeard 6 1 6 [.ref 0, zi x, zi y] S J E "java/util/NoSuchElementException" (zFore n y 40 1 (zRcp S 3 (33 + 2 * x))).2 J E := by
  refine nCT.of hl (by decide) rfl (Nat.le_of_ble_eq_true rfl) (ls := [some (.ref 0), some (zi x), some (zi y)]) rfl (fun X C hF hX => ?_)
  subst hX
  obtain ⟨hn, hz, ht, ht4, hnb, hhv, hdb, hru⟩ := id hw
  refine sw_aload_0 C dX5_roundsUntilHeard_0 ?_
  refine sw_iload_1 C dX5_roundsUntilHeard_1 ?_
  refine sn_cV1v C vX5_needRumour lX5_117 rfl (by decide) rfl rfl dX5_roundsUntilHeard_2 (Nat.le_of_ble_eq_true rfl) (c_X5_needRumour hl ht ht4 hx hxt) (by decide) (by decide) (by decide) ?_
  refine sw_aload_0 C dX5_roundsUntilHeard_5 ?_
  refine sw_iload_2 C dX5_roundsUntilHeard_6 ?_
  refine sn_cV1v C vX5_needListener lX5_74 rfl (by decide) rfl rfl dX5_roundsUntilHeard_7 (Nat.le_of_ble_eq_true rfl) (c_X5_needListener hl hn hz hy hyl) (by decide) (by decide) (by decide) ?_
  refine sw_aload_0 C dX5_roundsUntilHeard_10 ?_
  refine sw_getR C (o' := 25) fX5_10 rfl (by decide) rfl rfl (by decide) dX5_roundsUntilHeard_11 ?_
  refine sw_getR C (o' := 32) fX5_120 rfl (by decide) rfl rfl (by decide) dX5_roundsUntilHeard_14 ?_
  refine sw_iload_1 C dX5_roundsUntilHeard_17 ?_
  refine sn_aald C (o' := (33 + 2 * x)) rfl (by decide) (by decide) (by omega) (by decide) (zP32 (by omega)) (by omega) dX5_roundsUntilHeard_18 ?_
  refine sn_cV0r C vX2_aware lX5_142 (zRu0 (by omega)).1 (zRu0 (by omega)).2.1 rfl rfl dX5_roundsUntilHeard_19 (Nat.le_of_ble_eq_true rfl) (c_X2_aware hl (zRu0 (by omega))) (by decide) (by decide) (by decide) ?_
  refine sw_iload_2 C dX5_roundsUntilHeard_22 ?_
  refine sn_cS2r C vX5_contains lX5_136 dX5_roundsUntilHeard_23 (Nat.le_of_ble_eq_true rfl) (c_X5_contains hl (by omega)) (by decide) (by decide) (by decide) ?_
  refine sn_if_eqB C 39 dX5_roundsUntilHeard_26 (by decide) (fun c26 => ?_) (fun c26 => ?_)
  · refine sw_aload_0 C dX5_roundsUntilHeard_39 ?_
    refine sw_aload_0 C dX5_roundsUntilHeard_40 ?_
    refine sw_getR C (o' := 25) fX5_10 rfl (by decide) rfl rfl (by decide) dX5_roundsUntilHeard_41 ?_
    refine sw_getR C (o' := 32) fX5_120 rfl (by decide) rfl rfl (by decide) dX5_roundsUntilHeard_44 ?_
    refine sw_iload_1 C dX5_roundsUntilHeard_47 ?_
    refine sn_aald C (o' := (33 + 2 * x)) rfl (by decide) (by decide) (by omega) (by decide) (zP32 (by omega)) (by omega) dX5_roundsUntilHeard_48 ?_
    refine sw_iload_2 C dX5_roundsUntilHeard_49 ?_
    refine sn_cV2r C vX5_foreseenHearing lX5_179 rfl (by decide) rfl rfl dX5_roundsUntilHeard_50 (Nat.le_of_ble_eq_true rfl) (c_X5_foreseenHearing hl hw (zRu0 (by omega)) (by omega) (hru x (by omega)) (by omega)) (by decide) (by decide) (by decide) ?_
    exact sn_cS1T C vX5_found kX5_164 dX5_roundsUntilHeard_53 (Nat.le_of_ble_eq_true rfl) (t_X5_found hl h0) (by decide) (by decide) (by decide) hF
  · rw [ha] at c26; cases c26

set_option maxRecDepth 100000 in
set_option maxHeartbeats 4000000 in
theorem c_X5_spreadersAfter {l : Launch} (hl : l.stackTraces = false) {G : zG} {S : zS} {J : Int64} {E : UInt64} {n t : Nat} (hw : zNow S n t) {x : Nat} (hx : x < 2 ^ 32) (hxt : x < t) {y : Nat} (hy : y < 2 ^ 32) (h40 : y ≤ 40) : nCR l G mX5_spreadersAfter 6 0 0 [.ref 0, zi x, zi y] S J E (some (zi (zpop (zFwd n y (zRcp S 3 (33 + 2 * x)) 3 3)))) (zFwd n y (zRcp S 3 (33 + 2 * x))) J E := by
  refine nCR.of hl (by decide) rfl (Nat.le_of_ble_eq_true rfl) (ls := [some (.ref 0), some (zi x), some (zi y), none]) rfl (fun X C hF hX => ?_)
  subst hX
  obtain ⟨hn, hz, ht, ht4, hnb, hhv, hdb, hru⟩ := id hw
  obtain ⟨f1, f2, f3, f4⟩ := hru x (by omega)
  refine sw_aload_0 C dX5_spreadersAfter_0 ?_
  refine sw_iload_1 C dX5_spreadersAfter_1 ?_
  refine sn_cV1v C vX5_needRumour lX5_117 rfl (by decide) rfl rfl dX5_spreadersAfter_2 (Nat.le_of_ble_eq_true rfl) (c_X5_needRumour hl ht ht4 hx hxt) (by decide) (by decide) (by decide) ?_
  refine sw_iload_2 C dX5_spreadersAfter_5 ?_
  refine sn_if_lt C 15 hy dX5_spreadersAfter_6 (by decide) (fun c6 => ?_) (fun c6 => ?_)
  · exfalso; first | omega | (simp_all; done) | (simp_all; omega)
  · refine sw_iload_2 C dX5_spreadersAfter_9 ?_
    refine sn_bipush C 40 (by decide) dX5_spreadersAfter_10 ?_
    refine sn_icmp_le C 25 (by omega) (by omega) dX5_spreadersAfter_12 (by decide) (fun c12 => ?_) (fun c12 => ?_)
    · refine sw_aload_0 C dX5_spreadersAfter_25 ?_
      refine sw_getR C (o' := 3) fX5_32 rfl (by decide) rfl rfl (by decide) dX5_spreadersAfter_26 ?_
      refine sw_aload_0 C dX5_spreadersAfter_29 ?_
      refine sw_getR C (o' := 25) fX5_10 rfl (by decide) rfl rfl (by decide) dX5_spreadersAfter_30 ?_
      refine sw_getR C (o' := 32) fX5_120 rfl (by decide) rfl rfl (by decide) dX5_spreadersAfter_33 ?_
      refine sw_iload_1 C dX5_spreadersAfter_36 ?_
      refine sn_aald C (o' := (33 + 2 * x)) rfl (by decide) (by decide) (by omega) (by decide) (zP32 (by omega)) (by omega) dX5_spreadersAfter_37 ?_
      refine sn_cV1v C vX2_copyFrom lX5_188 rfl (by decide) rfl rfl dX5_spreadersAfter_38 (Nat.le_of_ble_eq_true rfl) (c_X2_copyFrom hl zRu3 (zRu0 (by omega)) (by omega) f2) (by decide) (by decide) (by decide) ?_
      refine sn_iconst C 0 (by decide) dX5_spreadersAfter_41 ?_
      refine sw_istore_3 C rfl dX5_spreadersAfter_42 ?_
      have L43 : ∀ (k i : Nat) (q : zS), i ≤ y → (zNow q n t) → (zRb q 3) → (q = zFwd n i (zRcp S 3 (33 + 2 * x))) → y - i < k → SN G X 0 0 43 [some (.ref 0), some (zi x), some (zi y), some (zi i)] [] q J E := by
        intro k
        induction k with
        | zero => intro i q _ _ _ _ hk; exact absurd hk (by omega)
        | succ k ih43 =>
          intro i q hi hwq hbq hq hk
          obtain ⟨hn2, hz2, ht2, ht42, hnb2, hhv2, hdb2, hru2⟩ := id hwq
          obtain ⟨g1, g2, g3, g4⟩ := id hbq
          refine sw_iload_3 C dX5_spreadersAfter_43 ?_
          refine sw_iload_2 C dX5_spreadersAfter_44 ?_
          refine sn_icmp_ge C 66 (by omega) (by omega) dX5_spreadersAfter_45 (by decide) (fun c45 => ?_) (fun c45 => ?_)
          · refine sw_aload_0 C dX5_spreadersAfter_66 ?_
            refine sw_getR C (o' := 3) fX5_32 rfl (by decide) rfl rfl (by decide) dX5_spreadersAfter_67 ?_
            refine sn_getI C fX5_133 rfl (by decide) rfl dX5_spreadersAfter_70 ?_
            refine sn_cS1r C vJ6_bitCount_0f7a4 lX5_92 dX5_spreadersAfter_73 (Nat.le_of_ble_eq_true rfl) (c_J6_bitCount_0f7a4 hl g3) (by decide) (by decide) (by decide) ?_
            exact sn_iret C rfl hF dX5_spreadersAfter_76 (by decide) (by decide) (by rw [hq, show i = y from by omega]) (by rw [hq, show i = y from by omega]) rfl rfl
          · refine sw_aload_0 C dX5_spreadersAfter_48 ?_
            refine sw_getR C (o' := 25) fX5_10 rfl (by decide) rfl rfl (by decide) dX5_spreadersAfter_49 ?_
            refine sw_aload_0 C dX5_spreadersAfter_52 ?_
            refine sw_getR C (o' := 3) fX5_32 rfl (by decide) rfl rfl (by decide) dX5_spreadersAfter_53 ?_
            refine sn_cV1r C vX3_spreadOnce lX5_192 rfl (by decide) rfl rfl dX5_spreadersAfter_56 (Nat.le_of_ble_eq_true rfl) (c_X3_spreadOnce hl hn2 hz2 zRu3 (by decide) (by decide) hnb2 hdb2 g1 g2 g3 g4) (by decide) (by decide) (by decide) ?_
            refine sw_pop C rfl dX5_spreadersAfter_59 ?_
            refine sn_iinc_3 C rfl dX5_spreadersAfter_60 ?_
            refine sw_goto C 43 dX5_spreadersAfter_63 (by decide) ?_
            exact ih43 (i + 1) _ (by omega) (zSpread_now3 hwq) (zSpread_rb hz hbq) (by rw [zFwd, zIt, ← zFwd, ← hq]) (by omega)
      exact L43 _ 0 _ (by omega) (zRcp_now3 hw) (zRcp_rb3 (hru x (by omega)) (by omega)) rfl (Nat.lt_succ_self _)
    · exfalso; first | omega | (simp_all; done) | (simp_all; omega)

set_option maxRecDepth 100000 in
set_option maxHeartbeats 4000000 in
theorem t1_X5_spreadersAfter {l : Launch} (hl : l.stackTraces = false) {G : zG} {S : zS} {J : Int64} {E : UInt64} {n t : Nat} (hw : zNow S n t) {x : Nat} (hx : x < 2 ^ 32) (hxt : ¬ x < t) {y : Nat} (hy : y < 2 ^ 32) : nCT l G mX5_spreadersAfter 6 1 6 [.ref 0, zi x, zi y] S J E "java/lang/IndexOutOfBoundsException" S J E := by
  refine nCT.of hl (by decide) rfl (Nat.le_of_ble_eq_true rfl) (ls := [some (.ref 0), some (zi x), some (zi y), none]) rfl (fun X C hF hX => ?_)
  subst hX
  obtain ⟨hn, hz, ht, ht4, hnb, hhv, hdb, hru⟩ := id hw
  refine sw_aload_0 C dX5_spreadersAfter_0 ?_
  refine sw_iload_1 C dX5_spreadersAfter_1 ?_
  exact sn_cV1T C vX5_needRumour kX5_117 rfl (by decide) rfl rfl dX5_spreadersAfter_2 (Nat.le_of_ble_eq_true rfl) (t_X5_needRumour hl ht ht4 hx hxt) (by decide) (by decide) (by decide) hF

set_option maxRecDepth 100000 in
set_option maxHeartbeats 4000000 in
theorem t2_X5_spreadersAfter {l : Launch} (hl : l.stackTraces = false) {G : zG} {S : zS} {J : Int64} {E : UInt64} {n t : Nat} (hw : zNow S n t) {x : Nat} (hx : x < 2 ^ 32) (hxt : x < t) {y : Nat} (hy : y < 2 ^ 32) (h40 : ¬ y ≤ 40) : nCT l G mX5_spreadersAfter 6 1 6 [.ref 0, zi x, zi y] S J E "java/lang/IllegalArgumentException" S J E := by
  refine nCT.of hl (by decide) rfl (Nat.le_of_ble_eq_true rfl) (ls := [some (.ref 0), some (zi x), some (zi y), none]) rfl (fun X C hF hX => ?_)
  subst hX
  obtain ⟨hn, hz, ht, ht4, hnb, hhv, hdb, hru⟩ := id hw
  obtain ⟨f1, f2, f3, f4⟩ := hru x (by omega)
  refine sw_aload_0 C dX5_spreadersAfter_0 ?_
  refine sw_iload_1 C dX5_spreadersAfter_1 ?_
  refine sn_cV1v C vX5_needRumour lX5_117 rfl (by decide) rfl rfl dX5_spreadersAfter_2 (Nat.le_of_ble_eq_true rfl) (c_X5_needRumour hl ht ht4 hx hxt) (by decide) (by decide) (by decide) ?_
  refine sw_iload_2 C dX5_spreadersAfter_5 ?_
  refine sn_if_lt C 15 hy dX5_spreadersAfter_6 (by decide) (fun c6 => ?_) (fun c6 => ?_)
  · exact sw_throw C (text := "the rounds are not between 0 and 40") zThA qX5_183 (by decide +kernel) hF dX5_spreadersAfter_15 dX5_spreadersAfter_18 dX5_spreadersAfter_19 dX5_spreadersAfter_21 dX5_spreadersAfter_24 (by decide) (Nat.le_of_ble_eq_true rfl) (by decide) (by decide)
  · refine sw_iload_2 C dX5_spreadersAfter_9 ?_
    refine sn_bipush C 40 (by decide) dX5_spreadersAfter_10 ?_
    refine sn_icmp_le C 25 (by omega) (by omega) dX5_spreadersAfter_12 (by decide) (fun c12 => ?_) (fun c12 => ?_)
    · omega
    · exact sw_throw C (text := "the rounds are not between 0 and 40") zThA qX5_183 (by decide +kernel) hF dX5_spreadersAfter_15 dX5_spreadersAfter_18 dX5_spreadersAfter_19 dX5_spreadersAfter_21 dX5_spreadersAfter_24 (by decide) (Nat.le_of_ble_eq_true rfl) (by decide) (by decide)

set_option maxRecDepth 100000 in
set_option maxHeartbeats 4000000 in
theorem c_X5_meanDoubt {l : Launch} (hl : l.stackTraces = false) {G : zG} {S : zS} {J : Int64} {E : UInt64} {n t : Nat} (hw : zNow S n t) (h0 : ¬ n = 0) : nCR l G mX5_meanDoubt 6 0 0 [.ref 0] S J E (some (.double (FP.ddiv (FP.i2d (nI (zDsum S n))) (FP.i2d (nI n))))) S J E := by
  refine nCR.of hl (by decide) rfl (Nat.le_of_ble_eq_true rfl) (ls := [some (.ref 0)]) rfl (fun X C hF hX => ?_)
  subst hX
  obtain ⟨hn, hz, ht, ht4, hnb, hhv, hdb, hru⟩ := id hw
  refine sw_aload_0 C dX5_meanDoubt_0 ?_
  refine sw_getR C (o' := 25) fX5_10 rfl (by decide) rfl rfl (by decide) dX5_meanDoubt_1 ?_
  refine sw_getR C (o' := 26) fX5_65 rfl (by decide) rfl rfl (by decide) dX5_meanDoubt_4 ?_
  refine sn_getI C fX5_69 rfl (by decide) rfl dX5_meanDoubt_7 ?_
  refine sn_if_ne C 23 (by omega) dX5_meanDoubt_10 (by decide) (fun c10 => ?_) (fun c10 => ?_)
  · refine sw_aload_0 C dX5_meanDoubt_23 ?_
    refine sw_getR C (o' := 25) fX5_10 rfl (by decide) rfl rfl (by decide) dX5_meanDoubt_24 ?_
    refine sn_cV0r C vX3_sumOfDoubts lX5_215 rfl (by decide) rfl rfl dX5_meanDoubt_27 (Nat.le_of_ble_eq_true rfl) (c_X3_sumOfDoubts hl hn hz) (by decide) (by decide) (by decide) ?_
    refine sw_i2d C dX5_meanDoubt_30 ?_
    refine sw_aload_0 C dX5_meanDoubt_31 ?_
    refine sw_getR C (o' := 25) fX5_10 rfl (by decide) rfl rfl (by decide) dX5_meanDoubt_32 ?_
    refine sw_getR C (o' := 26) fX5_65 rfl (by decide) rfl rfl (by decide) dX5_meanDoubt_35 ?_
    refine sn_getI C fX5_69 rfl (by decide) rfl dX5_meanDoubt_38 ?_
    rw [hn]
    refine sw_i2d C dX5_meanDoubt_41 ?_
    refine sw_ddiv C (by have h9 := zDsum_le (S := S) hz hdb; have h8 := zDiv_ok ⟨zDsum S n, by omega⟩ ⟨n - 1, by omega⟩; simpa [show n - 1 + 1 = n by omega] using h8) dX5_meanDoubt_42 ?_
    exact sn_dret C rfl hF dX5_meanDoubt_43 (by decide) (by decide) rfl rfl rfl
  · exfalso; first | omega | (simp_all; done) | (simp_all; omega)

set_option maxRecDepth 100000 in
set_option maxHeartbeats 4000000 in
theorem t1_X5_meanDoubt {l : Launch} (hl : l.stackTraces = false) {G : zG} {S : zS} {J : Int64} {E : UInt64} {n t : Nat} (hw : zNow S n t) (h0 : n = 0) : nCT l G mX5_meanDoubt 6 1 6 [.ref 0] S J E "java/lang/ArithmeticException" S J E := by
  refine nCT.of hl (by decide) rfl (Nat.le_of_ble_eq_true rfl) (ls := [some (.ref 0)]) rfl (fun X C hF hX => ?_)
  subst hX
  obtain ⟨hn, hz, ht, ht4, hnb, hhv, hdb, hru⟩ := id hw
  refine sw_aload_0 C dX5_meanDoubt_0 ?_
  refine sw_getR C (o' := 25) fX5_10 rfl (by decide) rfl rfl (by decide) dX5_meanDoubt_1 ?_
  refine sw_getR C (o' := 26) fX5_65 rfl (by decide) rfl rfl (by decide) dX5_meanDoubt_4 ?_
  refine sn_getI C fX5_69 rfl (by decide) rfl dX5_meanDoubt_7 ?_
  refine sn_if_ne C 23 (by omega) dX5_meanDoubt_10 (by decide) (fun c10 => ?_) (fun c10 => ?_)
  · omega
  · exact sw_throw C (text := "there are no listeners") zThM qX5_210 (by decide +kernel) hF dX5_meanDoubt_13 dX5_meanDoubt_16 dX5_meanDoubt_17 dX5_meanDoubt_19 dX5_meanDoubt_22 (by decide) (Nat.le_of_ble_eq_true rfl) (by decide) (by decide)

theorem zGsp_lt {S : zS} {t : Nat} (ht4 : t ≤ 4) (hru : ∀ r, r < 4 → zRb S (33 + 2 * r)) : zGsp S t < 4096 :=
  zIt_inv (fun m : Nat => m < 4096) (by decide) (fun i q hi hq => zOr_lt hq (hru i (by omega)).2.2.1)

set_option maxRecDepth 100000 in
set_option maxHeartbeats 4000000 in
theorem c_X5_gossipShare {l : Launch} (hl : l.stackTraces = false) {G : zG} {S : zS} {J : Int64} {E : UInt64} {n t : Nat} (hw : zNow S n t) (h0 : ¬ n = 0) : nCR l G mX5_gossipShare 6 0 0 [.ref 0] S J E (some (.float (FP.fdiv (FP.i2f (nI (zpop (zGsp S t)))) (FP.i2f (nI n))))) S J E := by
  refine nCR.of hl (by decide) rfl (Nat.le_of_ble_eq_true rfl) (ls := [some (.ref 0)]) rfl (fun X C hF hX => ?_)
  subst hX
  obtain ⟨hn, hz, ht, ht4, hnb, hhv, hdb, hru⟩ := id hw
  have hgl := zGsp_lt ht4 hru
  refine sw_aload_0 C dX5_gossipShare_0 ?_
  refine sw_getR C (o' := 25) fX5_10 rfl (by decide) rfl rfl (by decide) dX5_gossipShare_1 ?_
  refine sw_getR C (o' := 26) fX5_65 rfl (by decide) rfl rfl (by decide) dX5_gossipShare_4 ?_
  refine sn_getI C fX5_69 rfl (by decide) rfl dX5_gossipShare_7 ?_
  refine sn_if_ne C 23 (by omega) dX5_gossipShare_10 (by decide) (fun c10 => ?_) (fun c10 => ?_)
  · refine sw_aload_0 C dX5_gossipShare_23 ?_
    refine sw_getR C (o' := 25) fX5_10 rfl (by decide) rfl rfl (by decide) dX5_gossipShare_24 ?_
    refine sn_cV0r C vX3_gossips lX5_218 rfl (by decide) rfl rfl dX5_gossipShare_27 (Nat.le_of_ble_eq_true rfl) (c_X3_gossips hl ht ht4) (by decide) (by decide) (by decide) ?_
    refine sn_cS1r C vJ6_bitCount_0f7a4 lX5_92 dX5_gossipShare_30 (Nat.le_of_ble_eq_true rfl) (c_J6_bitCount_0f7a4 hl hgl) (by decide) (by decide) (by decide) ?_
    refine sw_i2f C dX5_gossipShare_33 ?_
    refine sw_aload_0 C dX5_gossipShare_34 ?_
    refine sw_getR C (o' := 25) fX5_10 rfl (by decide) rfl rfl (by decide) dX5_gossipShare_35 ?_
    refine sw_getR C (o' := 26) fX5_65 rfl (by decide) rfl rfl (by decide) dX5_gossipShare_38 ?_
    refine sn_getI C fX5_69 rfl (by decide) rfl dX5_gossipShare_41 ?_
    rw [hn]
    refine sw_i2f C dX5_gossipShare_44 ?_
    refine sw_fdiv C (by have h9 := zpop_le (zGsp S t); have h8 := zFdiv_ok ⟨zpop (zGsp S t), by omega⟩ ⟨n - 1, by omega⟩; simpa [show n - 1 + 1 = n by omega] using h8) dX5_gossipShare_45 ?_
    exact sn_fret C rfl hF dX5_gossipShare_46 (by decide) (by decide) rfl rfl rfl
  · exfalso; first | omega | (simp_all; done) | (simp_all; omega)

set_option maxRecDepth 100000 in
set_option maxHeartbeats 4000000 in
theorem t1_X5_gossipShare {l : Launch} (hl : l.stackTraces = false) {G : zG} {S : zS} {J : Int64} {E : UInt64} {n t : Nat} (hw : zNow S n t) (h0 : n = 0) : nCT l G mX5_gossipShare 6 1 6 [.ref 0] S J E "java/lang/ArithmeticException" S J E := by
  refine nCT.of hl (by decide) rfl (Nat.le_of_ble_eq_true rfl) (ls := [some (.ref 0)]) rfl (fun X C hF hX => ?_)
  subst hX
  obtain ⟨hn, hz, ht, ht4, hnb, hhv, hdb, hru⟩ := id hw
  refine sw_aload_0 C dX5_gossipShare_0 ?_
  refine sw_getR C (o' := 25) fX5_10 rfl (by decide) rfl rfl (by decide) dX5_gossipShare_1 ?_
  refine sw_getR C (o' := 26) fX5_65 rfl (by decide) rfl rfl (by decide) dX5_gossipShare_4 ?_
  refine sn_getI C fX5_69 rfl (by decide) rfl dX5_gossipShare_7 ?_
  refine sn_if_ne C 23 (by omega) dX5_gossipShare_10 (by decide) (fun c10 => ?_) (fun c10 => ?_)
  · omega
  · exact sw_throw C (text := "there are no listeners") zThM qX5_210 (by decide +kernel) hF dX5_gossipShare_13 dX5_gossipShare_16 dX5_gossipShare_17 dX5_gossipShare_19 dX5_gossipShare_22 (by decide) (Nat.le_of_ble_eq_true rfl) (by decide) (by decide)

def zDagR (S : zS) (n r : Nat) (q : zS) : zS := zIt (fun _ q => zRlx q n (S (33 + 2 * r) 3)) n q
def zDag (S : zS) (n t : Nat) : zS := zIt (fun r q => zDagR S n r q) t S
theorem zDagR_off {S q : zS} {n r a b : Nat} (h : a ≠ 29) : zDagR S n r q a b = q a b := zIt_inv (fun p : zS => p a b = q a b) rfl (fun _ _ _ hp => (zRlx_off h).trans hp)
theorem zDag_off {S : zS} {n t a b : Nat} (h : a ≠ 29) : zDag S n t a b = S a b := zIt_inv (fun p : zS => p a b = S a b) rfl (fun _ _ _ hp => (zDagR_off h).trans hp)
theorem zUnion_off {S : zS} {n a b : Nat} (h : a ≠ 28) : (zUnion S n).2 a b = S a b := by
  unfold zUnion
  refine zIt_inv (fun q : Nat × zS => q.2 a b = S a b) ?_ (fun i q _ hq => ?_)
  · exact zIt_inv (fun p : zS => p a b = S a b) rfl (fun _ _ _ hp => (zU_o h).trans hp)
  · refine zIt_inv (fun q : Nat × zS => q.2 a b = S a b) hq (fun j q _ hq => ?_)
    unfold zUniF
    split
    · exact (zU_o h).trans hq
    · exact hq
theorem zNow.off {S S' : zS} {n t : Nat} (h : zNow S n t) (hs : ∀ a b, a ≠ 28 → a ≠ 29 → S' a b = S a b) : zNow S' n t :=
  h.same (hs _ _ (by decide) (by decide)) (hs _ _ (by decide) (by decide)) (fun e _ => hs _ _ (by decide) (by decide)) (fun e _ => hs _ _ (by decide) (by decide)) (fun e _ => hs _ _ (by decide) (by decide)) (fun r hr => (h.2.2.2.2.2.2.2 r hr).same (fun k => hs _ _ (by omega) (by omega)))
def zAgree (S : zS) (n t : Nat) : Prop := ∀ r, r < t → ∀ e, e < n → ∀ q : zS, (∀ a b, a ≠ 28 → a ≠ 29 → q a b = S a b) → zBfs q (S (33 + 2 * r) 3) n n 0 (1 * 2 ^ e) (1 * 2 ^ e) = zRlR q n (S (33 + 2 * r) 3) e
theorem zRlR_lt {S : zS} {n g x : Nat} (hx : x < n) : zRlR S n g x < 2 ^ 32 := by
  have := zRlx_le (S := S) (g := g) x hx
  unfold zRlR; split <;> omega

set_option maxRecDepth 100000 in
set_option maxHeartbeats 4000000 in
theorem c_X3_distancesAgree {l : Launch} (hl : l.stackTraces = false) {G : zG} {S : zS} {J : Int64} {E : UInt64} {n t : Nat} (hw : zNow S n t) (hag : zAgree S n t) : nCR l G mX3_distancesAgree 4 0 0 [.ref 25] S J E (some (zi true.toNat)) (zDag S n t) J E := by
  refine nCR.of hl (by decide) rfl (Nat.le_of_ble_eq_true rfl) (ls := [some (.ref 25), none, none, none]) rfl (fun X C hF hX => ?_)
  subst hX
  obtain ⟨hn, hz, ht, ht4, hnb, hhv, hdb, hru⟩ := id hw
  refine sn_iconst C 0 (by decide) dX3_distancesAgree_0 ?_
  refine sw_istore_1 C rfl dX3_distancesAgree_1 ?_
  have L2 : ∀ (k r : Nat) (q : zS) (u2 : Option Value) (u3 : Option Value), r ≤ t → ((∀ a b, a ≠ 29 → q a b = S a b)) → (q = zIt (fun r q => zDagR S n r q) r S) → t - r < k → SN G X 0 0 2 [some (.ref 25), some (zi r), u2, u3] [] q J E := by
    intro k
    induction k with
    | zero => intro r q u2 u3 _ _ _ hk; exact absurd hk (by omega)
    | succ k ih2 =>
      intro r q u2 u3 hr hqo hq hk
      have hqt : q 25 4 = t := (hqo 25 4 (by decide)).trans ht
      refine sw_iload_1 C dX3_distancesAgree_2 ?_
      refine sw_aload_0 C dX3_distancesAgree_3 ?_
      refine sn_getI C fX3_31 rfl (by decide) rfl dX3_distancesAgree_4 ?_
      refine sn_icmp_ge C 68 (by omega) (by omega) dX3_distancesAgree_7 (by decide) (fun c7 => ?_) (fun c7 => ?_)
      · refine sn_iconst C 1 (by decide) dX3_distancesAgree_68 ?_
        exact sn_zret C (v := true) rfl hF dX3_distancesAgree_69 (by decide) (by decide) (by first | rfl | (simp [*]; done)) (by rw [hq, show r = t from by omega]; rfl) rfl rfl
      · refine sw_aload_0 C dX3_distancesAgree_10 ?_
        refine sw_getR C (o' := 32) fX3_27 rfl (by decide) rfl rfl (by decide) dX3_distancesAgree_11 ?_
        refine sw_iload_1 C dX3_distancesAgree_14 ?_
        refine sn_aald C (o' := (33 + 2 * r)) rfl (by decide) (by decide) (by omega) (by decide) (zP32 (by omega)) (by omega) dX3_distancesAgree_15 ?_
        refine sn_getIe C (S (33 + 2 * r) 3) (hqo _ _ (by omega)) fX3_82 (zRu0 (by omega)).1 (zRu0 (by omega)).2.1 rfl dX3_distancesAgree_16 ?_
        refine sw_istore_2 C rfl dX3_distancesAgree_19 ?_
        refine sn_iconst C 0 (by decide) dX3_distancesAgree_20 ?_
        refine sw_istore_3 C rfl dX3_distancesAgree_21 ?_
        have L22 : ∀ (k e : Nat) (p : zS), e ≤ n → ((∀ a b, a ≠ 29 → p a b = S a b)) → (p = zIt (fun _ q => zRlx q n (S (33 + 2 * r) 3)) e q) → n - e < k → SN G X 0 0 22 [some (.ref 25), some (zi r), some (zi (S (33 + 2 * r) 3)), some (zi e)] [] p J E := by
          intro k
          induction k with
          | zero => intro e p _ _ _ hk; exact absurd hk (by omega)
          | succ k ih22 =>
            intro e p he hpo hp hk
            have hpn : p 26 0 = n := (hpo 26 0 (by decide)).trans hn
            refine sw_iload_3 C dX3_distancesAgree_22 ?_
            refine sw_aload_0 C dX3_distancesAgree_23 ?_
            refine sw_getR C (o' := 26) fX3_12 rfl (by decide) rfl rfl (by decide) dX3_distancesAgree_24 ?_
            refine sn_getI C fX3_58 rfl (by decide) rfl dX3_distancesAgree_27 ?_
            refine sn_icmp_ge C 62 (by omega) (by omega) dX3_distancesAgree_30 (by decide) (fun c30 => ?_) (fun c30 => ?_)
            · refine sn_iinc_1 C rfl dX3_distancesAgree_62 ?_
              refine sw_goto C 2 dX3_distancesAgree_65 (by decide) ?_
              exact ih2 (r + 1) _ _ _ (by omega) hpo (by rw [zIt, ← hq, hp, show e = n from by omega]; rfl) (by omega)
            · have hbr := hru r (by omega)
              have hpo2 : ∀ a b, a ≠ 28 → a ≠ 29 → p a b = S a b := fun a b _ h => hpo a b h
              have hae := hag r (by omega) e (by omega) p hpo2
              have hlt := zRlR_lt (S := p) (g := S (33 + 2 * r) 3) (n := n) (x := e) (by omega)
              refine sw_aload_0 C dX3_distancesAgree_33 ?_
              refine sw_getR C (o' := 26) fX3_12 rfl (by decide) rfl rfl (by decide) dX3_distancesAgree_34 ?_
              refine sw_iload_3 C dX3_distancesAgree_37 ?_
              refine sw_iload_2 C dX3_distancesAgree_38 ?_
              refine sn_cV2r C vX1_stepsBySearch lX3_140 rfl (by decide) rfl rfl dX3_distancesAgree_39 (Nat.le_of_ble_eq_true rfl) (c_X1_stepsBySearch hl hpn hz (by omega) hbr.2.2.1) (by decide) (by decide) (by decide) ?_
              refine sw_aload_0 C dX3_distancesAgree_42 ?_
              refine sw_getR C (o' := 26) fX3_12 rfl (by decide) rfl rfl (by decide) dX3_distancesAgree_43 ?_
              refine sw_iload_3 C dX3_distancesAgree_46 ?_
              refine sw_iload_2 C dX3_distancesAgree_47 ?_
              refine sn_cV2r C vX1_stepsByRelaxing lX3_144 rfl (by decide) rfl rfl dX3_distancesAgree_48 (Nat.le_of_ble_eq_true rfl) (c_X1_stepsByRelaxing hl hpn hz (by omega) hbr.2.2.1) (by decide) (by decide) (by decide) ?_
              refine sn_icmp_eq C 56 (by rw [hae]; exact hlt) hlt dX3_distancesAgree_51 (by decide) (fun c51 => ?_) (fun c51 => ?_)
              · refine sn_iinc_3 C rfl dX3_distancesAgree_56 ?_
                refine sw_goto C 22 dX3_distancesAgree_59 (by decide) ?_
                exact ih22 (e + 1) _ (by omega) (fun a b h => (zRlx_off h).trans (hpo a b h)) (by rw [zIt, ← hp]) (by omega)
              · exact absurd hae c51
        exact L22 _ 0 _ (by omega) hqo rfl (Nat.lt_succ_self _)
  exact L2 _ 0 _ _ _ (by omega) (fun _ _ _ => rfl) rfl (Nat.lt_succ_self _)

set_option maxRecDepth 100000 in
set_option maxHeartbeats 4000000 in
theorem c_X5_isConsistent {l : Launch} (hl : l.stackTraces = false) {G : zG} {S : zS} {J : Int64} {E : UInt64} {n t : Nat} (hw : zNow S n t) (hsu : nI (zSearch S n).1 = nI (zUnion S n).1) (hag : zAgree (zUnion S n).2 n t) (hcl : ∀ r, r < t → S (33 + 2 * r) 3 &&& S (33 + 2 * r) 4 = 0) (hhs : zHsum S n = n) : nCR l G mX5_isConsistent 6 0 0 [.ref 0] S J E (some (zi true.toNat)) (zDag (zUnion S n).2 n t) J E := by
  refine nCR.of hl (by decide) rfl (Nat.le_of_ble_eq_true rfl) (ls := [some (.ref 0)]) rfl (fun X C hF hX => ?_)
  subst hX
  obtain ⟨hn, hz, ht, ht4, hnb, hhv, hdb, hru⟩ := id hw
  have hw1 : zNow (zUnion S n).2 n t := hw.off (fun a b h _ => zUnion_off h)
  have hw2 : zNow (zDag (zUnion S n).2 n t) n t := hw1.off (fun a b _ h => zDag_off h)
  obtain ⟨hn2, hz2, ht2, ht42, hnb2, hhv2, hdb2, hru2⟩ := id hw2
  have e2 : ∀ a b, a ≠ 28 → a ≠ 29 → (zDag (zUnion S n).2 n t) a b = S a b := fun a b h h2 => (zDag_off h2).trans (zUnion_off h)
  have hhs2 : zHsum (zDag (zUnion S n).2 n t) n = n := by
    have e3 : ∀ h, zMem (zDag (zUnion S n).2 n t) n h = zMem S n h := fun h => by
      unfold zMem
      congr 1
      funext e
      rw [e2 30 e (by decide) (by decide)]
    unfold zHsum
    simp only [e3]
    exact hhs
  refine sw_aload_0 C dX5_isConsistent_0 ?_
  refine sw_getR C (o' := 25) fX5_10 rfl (by decide) rfl rfl (by decide) dX5_isConsistent_1 ?_
  refine sw_getR C (o' := 26) fX5_65 rfl (by decide) rfl rfl (by decide) dX5_isConsistent_4 ?_
  refine sn_cV0r C vX1_piecesBySearch lX5_107 rfl (by decide) rfl rfl dX5_isConsistent_7 (Nat.le_of_ble_eq_true rfl) (c_X1_piecesBySearch hl hn hz) (by decide) (by decide) (by decide) ?_
  refine sw_aload_0 C dX5_isConsistent_10 ?_
  refine sw_getR C (o' := 25) fX5_10 rfl (by decide) rfl rfl (by decide) dX5_isConsistent_11 ?_
  refine sw_getR C (o' := 26) fX5_65 rfl (by decide) rfl rfl (by decide) dX5_isConsistent_14 ?_
  refine sn_cV0r C vX1_piecesByUnion lX5_111 rfl (by decide) rfl rfl dX5_isConsistent_17 (Nat.le_of_ble_eq_true rfl) (c_X1_piecesByUnion hl hn hz) (by decide) (by decide) (by decide) ?_
  refine sw_icmp_ne C 57 dX5_isConsistent_20 (by decide) (fun c20 => ?_) (fun c20 => ?_)
  · exact absurd hsu c20
  · refine sw_aload_0 C dX5_isConsistent_23 ?_
    refine sw_getR C (o' := 25) fX5_10 rfl (by decide) rfl rfl (by decide) dX5_isConsistent_24 ?_
    refine sn_cV0r C vX3_distancesAgree lX5_221 rfl (by decide) rfl rfl dX5_isConsistent_27 (Nat.le_of_ble_eq_true rfl) (c_X3_distancesAgree hl hw1 hag) (by decide) (by decide) (by decide) ?_
    refine sn_if_eqB C 57 dX5_isConsistent_30 (by decide) (fun c30 => ?_) (fun c30 => ?_)
    · cases c30
    · refine sw_aload_0 C dX5_isConsistent_33 ?_
      refine sw_getR C (o' := 25) fX5_10 rfl (by decide) rfl rfl (by decide) dX5_isConsistent_34 ?_
      refine sn_cV0r C vX3_standsAreClear lX5_225 rfl (by decide) rfl rfl dX5_isConsistent_37 (Nat.le_of_ble_eq_true rfl) (c_X3_standsAreClear hl ht2 ht42 hru2 (fun r hr => by rw [e2 _ _ (by omega) (by omega), e2 _ _ (by omega) (by omega)]; exact hcl r hr)) (by decide) (by decide) (by decide) ?_
      refine sn_if_eqB C 57 dX5_isConsistent_40 (by decide) (fun c40 => ?_) (fun c40 => ?_)
      · cases c40
      · refine sw_aload_0 C dX5_isConsistent_43 ?_
        refine sw_getR C (o' := 25) fX5_10 rfl (by decide) rfl rfl (by decide) dX5_isConsistent_44 ?_
        refine sn_cV0r C vX3_hivesAddUp lX5_228 rfl (by decide) rfl rfl dX5_isConsistent_47 (Nat.le_of_ble_eq_true rfl) (c_X3_hivesAddUp hl hn2 hz hhv2) (by decide) (by decide) (by decide) ?_
        refine sn_if_eqB C 57 dX5_isConsistent_50 (by decide) (fun c50 => ?_) (fun c50 => ?_)
        · rw [hhs2] at c50; simp at c50
        · refine sn_iconst C 1 (by decide) dX5_isConsistent_53 ?_
          refine sw_goto C 58 dX5_isConsistent_54 (by decide) ?_
          exact sn_zret C (v := true) rfl hF dX5_isConsistent_58 (by decide) (by decide) (by first | rfl | (simp [*]; done)) rfl rfl rfl
