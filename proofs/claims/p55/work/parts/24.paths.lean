theorem zFind_step {p : Nat → Bool} {k i : Nat} (h : p i = false) : zFind p (k + 1) i = zFind p k (i + 1) := by rw [zFind, h]; rfl
theorem zFind_hit {p : Nat → Bool} {k i : Nat} (h : p i = true) : zFind p (k + 1) i = i := by rw [zFind, h]; rfl

set_option maxRecDepth 100000 in
set_option maxHeartbeats 4000000 in
theorem c_X3_rumourAtRank {l : Launch} (hl : l.stackTraces = false) {G : zG} {S : zS} {J : Int64} {E : UInt64} {t : Nat} (ht : S 25 4 = t) (ht4 : t ≤ 4) (hru : ∀ r, r < 4 → zRb S (33 + 2 * r)) {k0 : Nat} (hk0 : k0 < 2 ^ 32) : nCR l G mX3_rumourAtRank 2 0 0 [.ref 25, zi k0] S J E (some (zi (zFind (fun r => decide (zRkR S t r = k0)) t 0))) S J E := by
  refine nCR.of hl (by decide) rfl (Nat.le_of_ble_eq_true rfl) (ls := [some (.ref 25), some (zi k0), none, none, none]) rfl (fun X C hF hX => ?_)
  subst hX
  refine sn_iconst C 0 (by decide) dX3_rumourAtRank_0 ?_
  refine sw_istore_2 C rfl dX3_rumourAtRank_1 ?_
  have L2 : ∀ (k r : Nat) (u3 : Option Value) (u4 : Option Value), r ≤ t → (zFind (fun r => decide (zRkR S t r = k0)) (t - r) r = zFind (fun r => decide (zRkR S t r = k0)) t 0) → t - r < k → SN G X 0 0 2 [some (.ref 25), some (zi k0), some (zi r), u3, u4] [] S J E := by
    intro k
    induction k with
    | zero => intro r u3 u4 _ _ hk; exact absurd hk (by omega)
    | succ k ih2 =>
      intro r u3 u4 hr hf hk
      refine sw_iload_2 C dX3_rumourAtRank_2 ?_
      refine sw_aload_0 C dX3_rumourAtRank_3 ?_
      refine sn_getI C fX3_31 rfl (by decide) rfl dX3_rumourAtRank_4 ?_
      refine sn_icmp_ge C 62 (by omega) (by omega) dX3_rumourAtRank_7 (by decide) (fun c7 => ?_) (fun c7 => ?_)
      · refine sn_iconst C 4294967295 (by decide) dX3_rumourAtRank_62 ?_
        exact sn_iret C rfl hF dX3_rumourAtRank_63 (by decide) (by decide) (by rw [show t - r = 0 from by omega] at hf; exact hf) rfl rfl rfl
      · refine sn_iconst C 0 (by decide) dX3_rumourAtRank_10 ?_
        refine sw_istore_3 C rfl dX3_rumourAtRank_11 ?_
        refine sn_iconst C 0 (by decide) dX3_rumourAtRank_12 ?_
        refine sw_istore_4 C rfl dX3_rumourAtRank_13 ?_
        have L15 : ∀ (k i : Nat) (c : Nat), i ≤ t → (c = zcnt i (fun x => decide (¬ x = r) && zSA S x r)) → t - i < k → SN G X 0 0 15 [some (.ref 25), some (zi k0), some (zi r), some (zi c), some (zi i)] [] S J E := by
          intro k
          induction k with
          | zero => intro i c _ _ hk; exact absurd hk (by omega)
          | succ k ih15 =>
            intro i c hi hc hk
            refine sw_iload_4 C dX3_rumourAtRank_15 ?_
            refine sw_aload_0 C dX3_rumourAtRank_17 ?_
            refine sn_getI C fX3_31 rfl (by decide) rfl dX3_rumourAtRank_18 ?_
            refine sn_icmp_ge C 49 (by omega) (by omega) dX3_rumourAtRank_21 (by decide) (fun c21 => ?_) (fun c21 => ?_)
            · have hcr : c = zRkR S t r := by rw [hc, show i = t from by omega]; rfl
              refine sw_iload_3 C dX3_rumourAtRank_49 ?_
              refine sw_iload_1 C dX3_rumourAtRank_50 ?_
              refine sn_icmp_ne C 56 (by have := zcnt_le t (fun x => decide (¬ x = r) && zSA S x r); rw [← show i = t by omega, ← hc] at this; omega) hk0 dX3_rumourAtRank_51 (by decide) (fun c51 => ?_) (fun c51 => ?_)
              · have hne : ¬ zRkR S t r = k0 := by rw [← hcr]; exact c51
                refine sn_iinc_2 C rfl dX3_rumourAtRank_56 ?_
                refine sw_goto C 2 dX3_rumourAtRank_59 (by decide) ?_
                exact ih2 (r + 1) _ _ (by omega) (by rw [show t - r = t - (r + 1) + 1 from by omega, zFind_step (by simpa using hne)] at hf; exact hf) (by omega)
              · have hne : zRkR S t r = k0 := by rw [← hcr]; exact c51
                refine sw_iload_2 C dX3_rumourAtRank_54 ?_
                exact sn_iret C rfl hF dX3_rumourAtRank_55 (by decide) (by decide) (by rw [show t - r = t - (r + 1) + 1 from by omega, zFind_hit (by simpa using hne)] at hf; exact hf) rfl rfl rfl
            · refine sw_iload_4 C dX3_rumourAtRank_24 ?_
              refine sw_iload_2 C dX3_rumourAtRank_26 ?_
              refine sn_icmp_eq C 43 (by omega) (by omega) dX3_rumourAtRank_27 (by decide) (fun c27 => ?_) (fun c27 => ?_)
              · refine sn_iinc_4 C rfl dX3_rumourAtRank_43 ?_
                refine sw_goto C 15 dX3_rumourAtRank_46 (by decide) ?_
                exact ih15 (i + 1) _ (by omega) (by rw [zcnt, zIt, ← zcnt, ← hc]; first | simp [c27, c37] | simp [c27]) (by omega)
              · refine sw_aload_0 C dX3_rumourAtRank_30 ?_
                refine sw_iload_4 C dX3_rumourAtRank_31 ?_
                refine sw_iload_2 C dX3_rumourAtRank_33 ?_
                refine sn_cV2r C vX3_spreadsAhead lX3_131 rfl (by decide) rfl rfl dX3_rumourAtRank_34 (Nat.le_of_ble_eq_true rfl) (c_X3_spreadsAhead hl hru (by omega) (by omega)) (by decide) (by decide) (by decide) ?_
                refine sn_if_eqB C 43 dX3_rumourAtRank_37 (by decide) (fun c37 => ?_) (fun c37 => ?_)
                · refine sn_iinc_4 C rfl dX3_rumourAtRank_43 ?_
                  refine sw_goto C 15 dX3_rumourAtRank_46 (by decide) ?_
                  exact ih15 (i + 1) _ (by omega) (by rw [zcnt, zIt, ← zcnt, ← hc]; first | simp [c27, c37] | simp [c27]) (by omega)
                · refine sn_iinc_3 C rfl dX3_rumourAtRank_40 ?_
                  refine sn_iinc_4 C rfl dX3_rumourAtRank_43 ?_
                  refine sw_goto C 15 dX3_rumourAtRank_46 (by decide) ?_
                  exact ih15 (i + 1) _ (by omega) (by rw [zcnt, zIt, ← zcnt, ← hc]; first | simp [c27, c37] | simp [c27]) (by omega)
        exact L15 _ 0 0 (by omega) rfl (Nat.lt_succ_self _)
  exact L2 _ 0 _ _ (by omega) rfl (Nat.lt_succ_self _)

set_option maxRecDepth 100000 in
set_option maxHeartbeats 4000000 in
theorem c_X3_listenerAtRank {l : Launch} (hl : l.stackTraces = false) {G : zG} {S : zS} {J : Int64} {E : UInt64} {n t : Nat} (hn : S 26 0 = n) (hz : n ≤ 12) (ht : S 25 4 = t) (ht4 : t ≤ 4) (hdb : ∀ e, e < 12 → S 31 e ≤ 9) {k0 : Nat} (hk0 : k0 < 2 ^ 32) : nCR l G mX3_listenerAtRank 3 0 0 [.ref 25, zi k0] S J E (some (zi (zFind (fun r => decide (zRkL S n t r = k0)) n 0))) S J E := by
  refine nCR.of hl (by decide) rfl (Nat.le_of_ble_eq_true rfl) (ls := [some (.ref 25), some (zi k0), none, none, none]) rfl (fun X C hF hX => ?_)
  subst hX
  refine sn_iconst C 0 (by decide) dX3_listenerAtRank_0 ?_
  refine sw_istore_2 C rfl dX3_listenerAtRank_1 ?_
  have L2 : ∀ (k r : Nat) (u3 : Option Value) (u4 : Option Value), r ≤ n → (zFind (fun r => decide (zRkL S n t r = k0)) (n - r) r = zFind (fun r => decide (zRkL S n t r = k0)) n 0) → n - r < k → SN G X 0 0 2 [some (.ref 25), some (zi k0), some (zi r), u3, u4] [] S J E := by
    intro k
    induction k with
    | zero => intro r u3 u4 _ _ hk; exact absurd hk (by omega)
    | succ k ih2 =>
      intro r u3 u4 hr hf hk
      refine sw_iload_2 C dX3_listenerAtRank_2 ?_
      refine sw_aload_0 C dX3_listenerAtRank_3 ?_
      refine sw_getR C (o' := 26) fX3_12 rfl (by decide) rfl rfl (by decide) dX3_listenerAtRank_4 ?_
      refine sn_getI C fX3_58 rfl (by decide) rfl dX3_listenerAtRank_7 ?_
      refine sn_icmp_ge C 68 (by omega) (by omega) dX3_listenerAtRank_10 (by decide) (fun c10 => ?_) (fun c10 => ?_)
      · refine sn_iconst C 4294967295 (by decide) dX3_listenerAtRank_68 ?_
        exact sn_iret C rfl hF dX3_listenerAtRank_69 (by decide) (by decide) (by rw [show n - r = 0 from by omega] at hf; exact hf) rfl rfl rfl
      · refine sn_iconst C 0 (by decide) dX3_listenerAtRank_13 ?_
        refine sw_istore_3 C rfl dX3_listenerAtRank_14 ?_
        refine sn_iconst C 0 (by decide) dX3_listenerAtRank_15 ?_
        refine sw_istore_4 C rfl dX3_listenerAtRank_16 ?_
        have L18 : ∀ (k i : Nat) (c : Nat), i ≤ n → (c = zcnt i (fun x => decide (¬ x = r) && zGA S t x r)) → n - i < k → SN G X 0 0 18 [some (.ref 25), some (zi k0), some (zi r), some (zi c), some (zi i)] [] S J E := by
          intro k
          induction k with
          | zero => intro i c _ _ hk; exact absurd hk (by omega)
          | succ k ih18 =>
            intro i c hi hc hk
            refine sw_iload_4 C dX3_listenerAtRank_18 ?_
            refine sw_aload_0 C dX3_listenerAtRank_20 ?_
            refine sw_getR C (o' := 26) fX3_12 rfl (by decide) rfl rfl (by decide) dX3_listenerAtRank_21 ?_
            refine sn_getI C fX3_58 rfl (by decide) rfl dX3_listenerAtRank_24 ?_
            refine sn_icmp_ge C 55 (by omega) (by omega) dX3_listenerAtRank_27 (by decide) (fun c27 => ?_) (fun c27 => ?_)
            · have hcr : c = zRkL S n t r := by rw [hc, show i = n from by omega]; rfl
              refine sw_iload_3 C dX3_listenerAtRank_55 ?_
              refine sw_iload_1 C dX3_listenerAtRank_56 ?_
              refine sn_icmp_ne C 62 (by have := zcnt_le n (fun x => decide (¬ x = r) && zGA S t x r); rw [← show i = n by omega, ← hc] at this; omega) hk0 dX3_listenerAtRank_57 (by decide) (fun c57 => ?_) (fun c57 => ?_)
              · have hne : ¬ zRkL S n t r = k0 := by rw [← hcr]; exact c57
                refine sn_iinc_2 C rfl dX3_listenerAtRank_62 ?_
                refine sw_goto C 2 dX3_listenerAtRank_65 (by decide) ?_
                exact ih2 (r + 1) _ _ (by omega) (by rw [show n - r = n - (r + 1) + 1 from by omega, zFind_step (by simpa using hne)] at hf; exact hf) (by omega)
              · have hne : zRkL S n t r = k0 := by rw [← hcr]; exact c57
                refine sw_iload_2 C dX3_listenerAtRank_60 ?_
                exact sn_iret C rfl hF dX3_listenerAtRank_61 (by decide) (by decide) (by rw [show n - r = n - (r + 1) + 1 from by omega, zFind_hit (by simpa using hne)] at hf; exact hf) rfl rfl rfl
            · refine sw_iload_4 C dX3_listenerAtRank_30 ?_
              refine sw_iload_2 C dX3_listenerAtRank_32 ?_
              refine sn_icmp_eq C 49 (by omega) (by omega) dX3_listenerAtRank_33 (by decide) (fun c33 => ?_) (fun c33 => ?_)
              · refine sn_iinc_4 C rfl dX3_listenerAtRank_49 ?_
                refine sw_goto C 18 dX3_listenerAtRank_52 (by decide) ?_
                exact ih18 (i + 1) _ (by omega) (by rw [zcnt, zIt, ← zcnt, ← hc]; first | simp [c33, c43] | simp [c33]) (by omega)
              · refine sw_aload_0 C dX3_listenerAtRank_36 ?_
                refine sw_iload_4 C dX3_listenerAtRank_37 ?_
                refine sw_iload_2 C dX3_listenerAtRank_39 ?_
                refine sn_cV2r C vX3_gossipsAhead lX3_134 rfl (by decide) rfl rfl dX3_listenerAtRank_40 (Nat.le_of_ble_eq_true rfl) (c_X3_gossipsAhead hl ht ht4 hdb (by omega) (by omega)) (by decide) (by decide) (by decide) ?_
                refine sn_if_eqB C 49 dX3_listenerAtRank_43 (by decide) (fun c43 => ?_) (fun c43 => ?_)
                · refine sn_iinc_4 C rfl dX3_listenerAtRank_49 ?_
                  refine sw_goto C 18 dX3_listenerAtRank_52 (by decide) ?_
                  exact ih18 (i + 1) _ (by omega) (by rw [zcnt, zIt, ← zcnt, ← hc]; first | simp [c33, c43] | simp [c33]) (by omega)
                · refine sn_iinc_3 C rfl dX3_listenerAtRank_46 ?_
                  refine sn_iinc_4 C rfl dX3_listenerAtRank_49 ?_
                  refine sw_goto C 18 dX3_listenerAtRank_52 (by decide) ?_
                  exact ih18 (i + 1) _ (by omega) (by rw [zcnt, zIt, ← zcnt, ← hc]; first | simp [c33, c43] | simp [c33]) (by omega)
        exact L18 _ 0 0 (by omega) rfl (Nat.lt_succ_self _)
  exact L2 _ 0 _ _ (by omega) rfl (Nat.lt_succ_self _)

set_option maxRecDepth 100000 in
set_option maxHeartbeats 4000000 in
theorem c_X3_standsAreClear {l : Launch} (hl : l.stackTraces = false) {G : zG} {S : zS} {J : Int64} {E : UInt64} {t : Nat} (ht : S 25 4 = t) (ht4 : t ≤ 4) (hru : ∀ r, r < 4 → zRb S (33 + 2 * r)) (hcl : ∀ r, r < t → S (33 + 2 * r) 3 &&& S (33 + 2 * r) 4 = 0) : nCR l G mX3_standsAreClear 0 0 0 [.ref 25] S J E (some (zi true.toNat)) S J E := by
  refine nCR.of hl (by decide) rfl (Nat.le_of_ble_eq_true rfl) (ls := [some (.ref 25), none]) rfl (fun X C hF hX => ?_)
  subst hX
  refine sn_iconst C 0 (by decide) dX3_standsAreClear_0 ?_
  refine sw_istore_1 C rfl dX3_standsAreClear_1 ?_
  have L2 : ∀ (k i : Nat) , i ≤ t → t - i < k → SN G X 0 0 2 [some (.ref 25), some (zi i)] [] S J E := by
    intro k
    induction k with
    | zero => intro i  _  hk; exact absurd hk (by omega)
    | succ k ih2 =>
      intro i  hi  hk
      refine sw_iload_1 C dX3_standsAreClear_2 ?_
      refine sw_aload_0 C dX3_standsAreClear_3 ?_
      refine sn_getI C fX3_31 rfl (by decide) rfl dX3_standsAreClear_4 ?_
      refine sn_icmp_ge C 40 (by omega) (by omega) dX3_standsAreClear_7 (by decide) (fun c7 => ?_) (fun c7 => ?_)
      · refine sn_iconst C 1 (by decide) dX3_standsAreClear_40 ?_
        exact sn_zret C (v := true) rfl hF dX3_standsAreClear_41 (by decide) (by decide) (by first | rfl | (simp [*]; done)) rfl rfl rfl
      · refine sw_aload_0 C dX3_standsAreClear_10 ?_
        refine sw_getR C (o' := 32) fX3_27 rfl (by decide) rfl rfl (by decide) dX3_standsAreClear_11 ?_
        refine sw_iload_1 C dX3_standsAreClear_14 ?_
        refine sn_aald C (o' := (33 + 2 * i)) rfl (by decide) (by decide) (by omega) (by decide) (zP32 (by omega)) (by omega) dX3_standsAreClear_15 ?_
        refine sn_getI C fX3_82 (zRu0 (by omega)).1 (zRu0 (by omega)).2.1 rfl dX3_standsAreClear_16 ?_
        refine sw_aload_0 C dX3_standsAreClear_19 ?_
        refine sw_getR C (o' := 32) fX3_27 rfl (by decide) rfl rfl (by decide) dX3_standsAreClear_20 ?_
        refine sw_iload_1 C dX3_standsAreClear_23 ?_
        refine sn_aald C (o' := (33 + 2 * i)) rfl (by decide) (by decide) (by omega) (by decide) (zP32 (by omega)) (by omega) dX3_standsAreClear_24 ?_
        refine sn_getI C fX3_91 (zRu0 (by omega)).1 (zRu0 (by omega)).2.1 rfl dX3_standsAreClear_25 ?_
        refine sn_iand C dX3_standsAreClear_28 ?_
        refine sn_if_eq C 34 (by rw [hcl i (by omega)]; decide) dX3_standsAreClear_29 (by decide) (fun c29 => ?_) (fun c29 => ?_)
        · refine sn_iinc_1 C rfl dX3_standsAreClear_34 ?_
          refine sw_goto C 2 dX3_standsAreClear_37 (by decide) ?_
          exact ih2 (i + 1)  (by omega)  (by omega)
        · exact absurd (hcl i (by omega)) c29
  exact L2 _ 0  (by omega)  (Nat.lt_succ_self _)

def zHsum (S : zS) (n : Nat) : Nat := zIt (fun h s => s + zpop (zMem S n h)) 4 0
theorem zHsum_le (S : zS) (n k : Nat) : zIt (fun h s => s + zpop (zMem S n h)) k 0 ≤ 12 * k := by
  induction k with
  | zero => exact Nat.le_refl _
  | succ k ih => rw [zIt]; have := zpop_le (zMem S n k); omega

set_option maxRecDepth 100000 in
set_option maxHeartbeats 4000000 in
theorem c_X3_hivesAddUp {l : Launch} (hl : l.stackTraces = false) {G : zG} {S : zS} {J : Int64} {E : UInt64} {n : Nat} (hn : S 26 0 = n) (hz : n ≤ 12) (hhv : ∀ e, e < 12 → S 30 e < 4) : nCR l G mX3_hivesAddUp 1 0 0 [.ref 25] S J E (some (zi (decide (zHsum S n = n)).toNat)) S J E := by
  refine nCR.of hl (by decide) rfl (Nat.le_of_ble_eq_true rfl) (ls := [some (.ref 25), none, none]) rfl (fun X C hF hX => ?_)
  subst hX
  refine sn_iconst C 0 (by decide) dX3_hivesAddUp_0 ?_
  refine sw_istore_1 C rfl dX3_hivesAddUp_1 ?_
  refine sn_iconst C 0 (by decide) dX3_hivesAddUp_2 ?_
  refine sw_istore_2 C rfl dX3_hivesAddUp_3 ?_
  have L4 : ∀ (k i : Nat) (c : Nat), i ≤ 4 → (c = zIt (fun h s => s + zpop (zMem S n h)) i 0) → 4 - i < k → SN G X 0 0 4 [some (.ref 25), some (zi c), some (zi i)] [] S J E := by
    intro k
    induction k with
    | zero => intro i c _ _ hk; exact absurd hk (by omega)
    | succ k ih4 =>
      intro i c hi hc hk
      refine sw_iload_2 C dX3_hivesAddUp_4 ?_
      refine sn_iconst C 4 (by decide) dX3_hivesAddUp_5 ?_
      refine sn_icmp_ge C 26 (by omega) (by omega) dX3_hivesAddUp_6 (by decide) (fun c6 => ?_) (fun c6 => ?_)
      · have hc2 : c = zHsum S n := by rw [hc, show i = 4 from by omega]; rfl
        have hc3 : c ≤ 48 := by rw [hc2]; exact zHsum_le S n 4
        refine sw_iload_1 C dX3_hivesAddUp_26 ?_
        refine sw_aload_0 C dX3_hivesAddUp_27 ?_
        refine sw_getR C (o' := 26) fX3_12 rfl (by decide) rfl rfl (by decide) dX3_hivesAddUp_28 ?_
        refine sn_getI C fX3_58 rfl (by decide) rfl dX3_hivesAddUp_31 ?_
        refine sn_icmp_ne C 41 (by omega) (by omega) dX3_hivesAddUp_34 (by decide) (fun c34 => ?_) (fun c34 => ?_)
        · refine sn_iconst C 0 (by decide) dX3_hivesAddUp_41 ?_
          exact sn_zret C (v := false) rfl hF dX3_hivesAddUp_42 (by decide) (by decide) (by simp; omega) rfl rfl rfl
        · refine sn_iconst C 1 (by decide) dX3_hivesAddUp_37 ?_
          refine sw_goto C 42 dX3_hivesAddUp_38 (by decide) ?_
          exact sn_zret C (v := true) rfl hF dX3_hivesAddUp_42 (by decide) (by decide) (by simp; omega) rfl rfl rfl
      · refine sw_iload_1 C dX3_hivesAddUp_9 ?_
        refine sw_aload_0 C dX3_hivesAddUp_10 ?_
        refine sw_iload_2 C dX3_hivesAddUp_11 ?_
        refine sn_cV1r C vX3_membersOf lX3_128 rfl (by decide) rfl rfl dX3_hivesAddUp_12 (Nat.le_of_ble_eq_true rfl) (c_X3_membersOf hl hn hz hhv (by omega)) (by decide) (by decide) (by decide) ?_
        refine sn_cS1r C vJ6_bitCount_0f7a4 lX3_102 dX3_hivesAddUp_15 (Nat.le_of_ble_eq_true rfl) (c_J6_bitCount_0f7a4 hl (zmask_lt hz _)) (by decide) (by decide) (by decide) ?_
        refine sn_iadd C dX3_hivesAddUp_18 ?_
        refine sw_istore_1 C rfl dX3_hivesAddUp_19 ?_
        refine sn_iinc_2 C rfl dX3_hivesAddUp_20 ?_
        refine sw_goto C 4 dX3_hivesAddUp_23 (by decide) ?_
        exact ih4 (i + 1) _ (by omega) (by rw [zIt, ← hc]) (by omega)
  exact L4 _ 0 0 (by omega) rfl (Nat.lt_succ_self _)

set_option maxRecDepth 100000 in
set_option maxHeartbeats 4000000 in
theorem c_X1_stepsBySearch {l : Launch} (hl : l.stackTraces = false) {G : zG} {S : zS} {J : Int64} {E : UInt64} {n : Nat} (hn : S 26 0 = n) (hz : n ≤ 12) {x g : Nat} (hx : x < 12) (hg : g < 4096) : nCR l G mX1_stepsBySearch 2 0 0 [.ref 26, zi x, zi g] S J E (some (zi (zBfs S g n n 0 (1 * 2 ^ x) (1 * 2 ^ x)))) S J E := by
  refine nCR.of hl (by decide) rfl (Nat.le_of_ble_eq_true rfl) (ls := [some (.ref 26), some (zi x), some (zi g), none, none, none]) rfl (fun X C hF hX => ?_)
  subst hX
  refine sn_iconst C 1 (by decide) dX1_stepsBySearch_0 ?_
  refine sw_iload_1 C dX1_stepsBySearch_1 ?_
  refine sn_ishl C (by omega) dX1_stepsBySearch_2 ?_
  refine sw_istore_3 C rfl dX1_stepsBySearch_3 ?_
  refine sw_iload_3 C dX1_stepsBySearch_4 ?_
  refine sw_istore_4 C rfl dX1_stepsBySearch_5 ?_
  refine sn_iconst C 0 (by decide) dX1_stepsBySearch_7 ?_
  refine sw_istore_5 C rfl dX1_stepsBySearch_8 ?_
  have L10 : ∀ (k i : Nat) (e : Nat) (s : Nat), i ≤ n → (zBfs S g n (n - i) i e s = zBfs S g n n 0 (1 * 2 ^ x) (1 * 2 ^ x)) → n - i < k → SN G X 0 0 10 [some (.ref 26), some (zi x), some (zi g), some (zi e), some (zi s), some (zi i)] [] S J E := by
    intro k
    induction k with
    | zero => intro i e s _ _ hk; exact absurd hk (by omega)
    | succ k ih10 =>
      intro i e s hi hf hk
      refine sw_iload_5 C dX1_stepsBySearch_10 ?_
      refine sw_aload_0 C dX1_stepsBySearch_12 ?_
      refine sn_getI C fX1_9 rfl (by decide) rfl dX1_stepsBySearch_13 ?_
      refine sn_icmp_ge C 51 (by omega) (by omega) dX1_stepsBySearch_16 (by decide) (fun c16 => ?_) (fun c16 => ?_)
      · refine sn_iconst C 4294967295 (by decide) dX1_stepsBySearch_51 ?_
        exact sn_iret C rfl hF dX1_stepsBySearch_52 (by decide) (by decide) (by rw [show n - i = 0 from by omega] at hf; exact hf) rfl rfl rfl
      · refine sw_iload_3 C dX1_stepsBySearch_19 ?_
        refine sw_iload_2 C dX1_stepsBySearch_20 ?_
        refine sn_iand C dX1_stepsBySearch_21 ?_
        refine sn_if_eq C 28 (by have := zAnd_lt' (x := e) hg; omega) dX1_stepsBySearch_22 (by decide) (fun c22 => ?_) (fun c22 => ?_)
        · refine sw_aload_0 C dX1_stepsBySearch_28 ?_
          refine sw_iload_3 C dX1_stepsBySearch_29 ?_
          refine sn_cV1r C vX1_around lX1_42 rfl (by decide) rfl rfl dX1_stepsBySearch_30 (Nat.le_of_ble_eq_true rfl) (c_X1_around hl hn hz) (by decide) (by decide) (by decide) ?_
          refine sw_iload_4 C dX1_stepsBySearch_33 ?_
          refine sn_iconst C 4294967295 (by decide) dX1_stepsBySearch_35 ?_
          refine sn_ixor C dX1_stepsBySearch_36 ?_
          refine sn_iand C dX1_stepsBySearch_37 ?_
          refine sw_istore_3 C rfl dX1_stepsBySearch_38 ?_
          refine sw_iload_4 C dX1_stepsBySearch_39 ?_
          refine sw_iload_3 C dX1_stepsBySearch_41 ?_
          refine sn_ior C dX1_stepsBySearch_42 ?_
          refine sw_istore_4 C rfl dX1_stepsBySearch_43 ?_
          refine sn_iinc_5 C rfl dX1_stepsBySearch_45 ?_
          refine sw_goto C 10 dX1_stepsBySearch_48 (by decide) ?_
          exact ih10 (i + 1) _ _ (by omega) (by rw [show n - i = n - (i + 1) + 1 from by omega, zBfs, if_pos c22] at hf; exact hf) (by omega)
        · refine sw_iload_5 C dX1_stepsBySearch_25 ?_
          exact sn_iret C rfl hF dX1_stepsBySearch_27 (by decide) (by decide) (by rw [show n - i = n - (i + 1) + 1 from by omega, zBfs, if_neg c22] at hf; exact hf) rfl rfl rfl
  exact L10 _ 0 _ _ (by omega) rfl (Nat.lt_succ_self _)

/-- relaxing one link, all links, and from a set -/
def zRlF (x y : Nat) (q : zS) : zS := if (q 27 x).testBit y then zU q 29 x (min (q 29 x) (q 29 y + 1)) else q
def zRl (n : Nat) (S : zS) : zS := zIt (fun x q => zIt (fun y q => zRlF x y q) n q) n S
def zRl0 (S : zS) (n g : Nat) : zS := zIt (fun i q => zU q 29 i (if g.testBit i then 0 else 1000)) n S
def zRlx (S : zS) (n g : Nat) : zS := zIt (fun _ q => zRl n q) (n - 1) (zRl0 S n g)
def zRlR (S : zS) (n g x : Nat) : Nat := if zRlx S n g 29 x = 1000 then 4294967295 else zRlx S n g 29 x
theorem zRlF_off {x y : Nat} {q : zS} {a b : Nat} (h : a ≠ 29) : zRlF x y q a b = q a b := by
  unfold zRlF; split
  · exact zU_o h
  · rfl
theorem zRlF_le {n x y : Nat} {q : zS} (hx : x < n) (hq : ∀ k, k < n → q 29 k ≤ 1000) : ∀ k, k < n → zRlF x y q 29 k ≤ 1000 := by
  intro k hk
  unfold zRlF; split
  · by_cases h : k = x
    · subst h; rw [zU_s]; exact Nat.le_trans (Nat.min_le_left _ _) (hq k hk)
    · rw [zU_j h]; exact hq k hk
  · exact hq k hk
theorem zRl_off {n : Nat} {q : zS} {a b : Nat} (h : a ≠ 29) : zRl n q a b = q a b :=
  zIt_inv (fun p : zS => p a b = q a b) rfl (fun i p _ hp => zIt_inv (fun p : zS => p a b = q a b) hp (fun j p _ hp => (zRlF_off h).trans hp))
theorem zRl_le {n : Nat} {q : zS} (hq : ∀ k, k < n → q 29 k ≤ 1000) : ∀ k, k < n → zRl n q 29 k ≤ 1000 :=
  zIt_inv (fun p : zS => ∀ k, k < n → p 29 k ≤ 1000) hq (fun i p hi hp => zIt_inv (fun p : zS => ∀ k, k < n → p 29 k ≤ 1000) hp (fun j p _ hp => zRlF_le hi hp))
theorem zRl0_off {S : zS} {n g a b : Nat} (h : a ≠ 29) : zRl0 S n g a b = S a b :=
  zIt_inv (fun p : zS => p a b = S a b) rfl (fun i p _ hp => (zU_o h).trans hp)
theorem zRl0_at {S : zS} {n g k : Nat} (h : k < n) : zRl0 S n g 29 k = if g.testBit k then 0 else 1000 := by
  unfold zRl0
  induction n with
  | zero => omega
  | succ n ih =>
    rw [zIt]
    by_cases hk : k = n
    · subst hk; exact zU_s
    · rw [zU_j hk]; exact ih (by omega)
theorem zRlx_off {S : zS} {n g a b : Nat} (h : a ≠ 29) : zRlx S n g a b = S a b :=
  zIt_inv (fun p : zS => p a b = S a b) (zRl0_off h) (fun i p _ hp => (zRl_off h).trans hp)
theorem zRlx_le {S : zS} {n g : Nat} : ∀ k, k < n → zRlx S n g 29 k ≤ 1000 :=
  zIt_inv (fun p : zS => ∀ k, k < n → p 29 k ≤ 1000) (fun k hk => by rw [zRl0_at hk]; split <;> omega) (fun i p _ hp => zRl_le hp)

set_option maxRecDepth 100000 in
set_option maxHeartbeats 4000000 in
theorem c_X1_relaxLinks {l : Launch} (hl : l.stackTraces = false) {G : zG} {S : zS} {J : Int64} {E : UInt64} {n : Nat} (hn : S 26 0 = n) (hz : n ≤ 12) (hle : ∀ k, k < n → S 29 k ≤ 1000) : nCR l G mX1_relaxLinks 2 0 0 [.ref 26] S J E none (zRl n S) J E := by
  refine nCR.of hl (by decide) rfl (Nat.le_of_ble_eq_true rfl) (ls := [some (.ref 26), none, none]) rfl (fun X C hF hX => ?_)
  subst hX
  refine sn_iconst C 0 (by decide) dX1_relaxLinks_0 ?_
  refine sw_istore_1 C rfl dX1_relaxLinks_1 ?_
  have L2 : ∀ (k x : Nat) (q : zS) (u : Option Value), x ≤ n → ((∀ a b, a ≠ 29 → q a b = S a b)) → ((∀ k, k < n → q 29 k ≤ 1000)) → (q = zIt (fun x q => zIt (fun y q => zRlF x y q) n q) x S) → n - x < k → SN G X 0 0 2 [some (.ref 26), some (zi x), u] [] q J E := by
    intro k
    induction k with
    | zero => intro x q u _ _ _ _ hk; exact absurd hk (by omega)
    | succ k ih2 =>
      intro x q u hx hqo hql hq hk
      have hqn : q 26 0 = n := (hqo 26 0 (by decide)).trans hn
      refine sw_iload_1 C dX1_relaxLinks_2 ?_
      refine sw_aload_0 C dX1_relaxLinks_3 ?_
      refine sn_getI C fX1_9 rfl (by decide) rfl dX1_relaxLinks_4 ?_
      refine sn_icmp_ge C 64 (by omega) (by omega) dX1_relaxLinks_7 (by decide) (fun c7 => ?_) (fun c7 => ?_)
      · exact sn_vret C rfl hF dX1_relaxLinks_64 (by decide) (by decide) (by rw [hq, show x = n from by omega]; rfl) rfl rfl
      · refine sn_iconst C 0 (by decide) dX1_relaxLinks_10 ?_
        refine sw_istore_2 C rfl dX1_relaxLinks_11 ?_
        have L12 : ∀ (k y : Nat) (p : zS), y ≤ n → ((∀ a b, a ≠ 29 → p a b = S a b)) → ((∀ k, k < n → p 29 k ≤ 1000)) → (p = zIt (fun y q => zRlF x y q) y q) → n - y < k → SN G X 0 0 12 [some (.ref 26), some (zi x), some (zi y)] [] p J E := by
          intro k
          induction k with
          | zero => intro y p _ _ _ _ hk; exact absurd hk (by omega)
          | succ k ih12 =>
            intro y p hy hpo hpl hp hk
            have hpn : p 26 0 = n := (hpo 26 0 (by decide)).trans hn
            have hpx := hpl x (by omega)
            refine sw_iload_2 C dX1_relaxLinks_12 ?_
            refine sw_aload_0 C dX1_relaxLinks_13 ?_
            refine sn_getI C fX1_9 rfl (by decide) rfl dX1_relaxLinks_14 ?_
            refine sn_icmp_ge C 58 (by omega) (by omega) dX1_relaxLinks_17 (by decide) (fun c17 => ?_) (fun c17 => ?_)
            · refine sn_iinc_1 C rfl dX1_relaxLinks_58 ?_
              refine sw_goto C 2 dX1_relaxLinks_61 (by decide) ?_
              exact ih2 (x + 1) _ _ (by omega) hpo hpl (by rw [zIt, ← hq, hp, show y = n from by omega]) (by omega)
            · refine sw_aload_0 C dX1_relaxLinks_20 ?_
              refine sw_iload_1 C dX1_relaxLinks_21 ?_
              refine sw_iload_2 C dX1_relaxLinks_22 ?_
              refine sn_cV2r C vX1_joined lX1_45 rfl (by decide) rfl rfl dX1_relaxLinks_23 (Nat.le_of_ble_eq_true rfl) (c_X1_joined hl (by omega) (by omega)) (by decide) (by decide) (by decide) ?_
              refine sn_if_eqB C 52 dX1_relaxLinks_26 (by decide) (fun c26 => ?_) (fun c26 => ?_)
              · have eF : zRlF x y p = p := by unfold zRlF; rw [c26]; rfl
                refine sn_iinc_2 C rfl dX1_relaxLinks_52 ?_
                refine sw_goto C 12 dX1_relaxLinks_55 (by decide) ?_
                have hb := ih12 (y + 1) (zRlF x y p) (by omega) (fun a b h => (zRlF_off h).trans (hpo a b h)) (zRlF_le (by omega) hpl) (by rw [zIt, ← hp]) (by omega)
                first | (rw [eT] at hb; exact hb) | (rw [eF] at hb; exact hb)
              · have eT : zRlF x y p = zU p 29 x (min (p 29 x) (p 29 y + 1)) := by unfold zRlF; rw [c26]; rfl
                have hpy := hpl y (by omega)
                refine sw_aload_0 C dX1_relaxLinks_29 ?_
                refine sw_getR C (o' := 29) fX1_25 rfl (by decide) rfl rfl (by decide) dX1_relaxLinks_30 ?_
                refine sw_iload_1 C dX1_relaxLinks_33 ?_
                refine sw_aload_0 C dX1_relaxLinks_34 ?_
                refine sw_getR C (o' := 29) fX1_25 rfl (by decide) rfl rfl (by decide) dX1_relaxLinks_35 ?_
                refine sw_iload_1 C dX1_relaxLinks_38 ?_
                refine sn_iald C rfl (by decide) (by omega) (by decide) dX1_relaxLinks_39 ?_
                refine sw_aload_0 C dX1_relaxLinks_40 ?_
                refine sw_getR C (o' := 29) fX1_25 rfl (by decide) rfl rfl (by decide) dX1_relaxLinks_41 ?_
                refine sw_iload_2 C dX1_relaxLinks_44 ?_
                refine sn_iald C rfl (by decide) (by omega) (by decide) dX1_relaxLinks_45 ?_
                refine sn_iconst C 1 (by decide) dX1_relaxLinks_46 ?_
                refine sn_iadd C dX1_relaxLinks_47 ?_
                refine sn_min C kMinX1 (by omega) (by omega) (by decide) (by decide) (Nat.le_of_ble_eq_true rfl) dX1_relaxLinks_48 ?_
                refine sn_iast C rfl (by decide) (by omega) (by decide) dX1_relaxLinks_51 ?_
                refine sn_iinc_2 C rfl dX1_relaxLinks_52 ?_
                refine sw_goto C 12 dX1_relaxLinks_55 (by decide) ?_
                have hb := ih12 (y + 1) (zRlF x y p) (by omega) (fun a b h => (zRlF_off h).trans (hpo a b h)) (zRlF_le (by omega) hpl) (by rw [zIt, ← hp]) (by omega)
                first | (rw [eT] at hb; exact hb) | (rw [eF] at hb; exact hb)
        exact L12 _ 0 q (by omega) hqo hql rfl (Nat.lt_succ_self _)
  exact L2 _ 0 S _ (by omega) (fun _ _ _ => rfl) hle rfl (Nat.lt_succ_self _)

set_option maxRecDepth 100000 in
set_option maxHeartbeats 4000000 in
theorem c_X1_stepsByRelaxing {l : Launch} (hl : l.stackTraces = false) {G : zG} {S : zS} {J : Int64} {E : UInt64} {n : Nat} (hn : S 26 0 = n) (hz : n ≤ 12) {x g : Nat} (hx : x < n) (hg : g < 4096) : nCR l G mX1_stepsByRelaxing 3 0 0 [.ref 26, zi x, zi g] S J E (some (zi (zRlR S n g x))) (zRlx S n g) J E := by
  refine nCR.of hl (by decide) rfl (Nat.le_of_ble_eq_true rfl) (ls := [some (.ref 26), some (zi x), some (zi g), none]) rfl (fun X C hF hX => ?_)
  subst hX
  refine sn_iconst C 0 (by decide) dX1_stepsByRelaxing_0 ?_
  refine sw_istore_3 C rfl dX1_stepsByRelaxing_1 ?_
  have L2 : ∀ (k i : Nat) (q : zS), i ≤ n → ((∀ a b, a ≠ 29 → q a b = S a b)) → (q = zIt (fun i q => zU q 29 i (if g.testBit i then 0 else 1000)) i S) → n - i < k → SN G X 0 0 2 [some (.ref 26), some (zi x), some (zi g), some (zi i)] [] q J E := by
    intro k
    induction k with
    | zero => intro i q _ _ _ hk; exact absurd hk (by omega)
    | succ k ih2 =>
      intro i q hi hqo hq hk
      have hqn : q 26 0 = n := (hqo 26 0 (by decide)).trans hn
      refine sw_iload_3 C dX1_stepsByRelaxing_2 ?_
      refine sw_aload_0 C dX1_stepsByRelaxing_3 ?_
      refine sn_getI C fX1_9 rfl (by decide) rfl dX1_stepsByRelaxing_4 ?_
      refine sn_icmp_ge C 37 (by omega) (by omega) dX1_stepsByRelaxing_7 (by decide) (fun c7 => ?_) (fun c7 => ?_)
      · have hqr : q = zRl0 S n g := by rw [hq, show i = n from by omega]; rfl
        refine sn_iconst C 1 (by decide) dX1_stepsByRelaxing_37 ?_
        refine sw_istore_3 C rfl dX1_stepsByRelaxing_38 ?_
        have L39 : ∀ (k j : Nat) (p : zS), j ≤ n - 1 → ((∀ a b, a ≠ 29 → p a b = S a b)) → ((∀ k, k < n → p 29 k ≤ 1000)) → (p = zIt (fun _ q => zRl n q) j (zRl0 S n g)) → n - 1 - j < k → SN G X 0 0 39 [some (.ref 26), some (zi x), some (zi g), some (zi (j + 1))] [] p J E := by
          intro k
          induction k with
          | zero => intro j p _ _ _ _ hk; exact absurd hk (by omega)
          | succ k ih39 =>
            intro j p hj hpo hpl hp hk
            have hpn : p 26 0 = n := (hpo 26 0 (by decide)).trans hn
            refine sw_iload_3 C dX1_stepsByRelaxing_39 ?_
            refine sw_aload_0 C dX1_stepsByRelaxing_40 ?_
            refine sn_getI C fX1_9 rfl (by decide) rfl dX1_stepsByRelaxing_41 ?_
            refine sn_icmp_ge C 57 (by omega) (by omega) dX1_stepsByRelaxing_44 (by decide) (fun c44 => ?_) (fun c44 => ?_)
            · have hpr : p = zRlx S n g := by rw [hp, show j = n - 1 from by omega]; rfl
              refine sw_aload_0 C dX1_stepsByRelaxing_57 ?_
              refine sw_getR C (o' := 29) fX1_25 rfl (by decide) rfl rfl (by decide) dX1_stepsByRelaxing_58 ?_
              refine sw_iload_1 C dX1_stepsByRelaxing_61 ?_
              refine sn_iald C rfl (by decide) (by omega) (by decide) dX1_stepsByRelaxing_62 ?_
              refine sn_sipush C 1000 (by decide) dX1_stepsByRelaxing_63 ?_
              refine sn_icmp_ne C 73 (by have := hpl x hx; omega) (by decide) dX1_stepsByRelaxing_66 (by decide) (fun c66 => ?_) (fun c66 => ?_)
              · refine sw_aload_0 C dX1_stepsByRelaxing_73 ?_
                refine sw_getR C (o' := 29) fX1_25 rfl (by decide) rfl rfl (by decide) dX1_stepsByRelaxing_74 ?_
                refine sw_iload_1 C dX1_stepsByRelaxing_77 ?_
                refine sn_iald C rfl (by decide) (by omega) (by decide) dX1_stepsByRelaxing_78 ?_
                exact sn_iret C rfl hF dX1_stepsByRelaxing_79 (by decide) (by decide) (by unfold zRlR; rw [← hpr]; first | rw [if_pos c66] | rw [if_neg c66]) (by exact hpr) rfl rfl
              · refine sn_iconst C 4294967295 (by decide) dX1_stepsByRelaxing_69 ?_
                refine sw_goto C 79 dX1_stepsByRelaxing_70 (by decide) ?_
                exact sn_iret C rfl hF dX1_stepsByRelaxing_79 (by decide) (by decide) (by unfold zRlR; rw [← hpr]; first | rw [if_pos c66] | rw [if_neg c66]) (by exact hpr) rfl rfl
            · refine sw_aload_0 C dX1_stepsByRelaxing_47 ?_
              refine sn_cV0v C vX1_relaxLinks lX1_54 rfl (by decide) rfl rfl dX1_stepsByRelaxing_48 (Nat.le_of_ble_eq_true rfl) (c_X1_relaxLinks hl hpn hz hpl) (by decide) (by decide) (by decide) ?_
              refine sn_iinc_3 C rfl dX1_stepsByRelaxing_51 ?_
              refine sw_goto C 39 dX1_stepsByRelaxing_54 (by decide) ?_
              exact ih39 (j + 1) _ (by omega) (fun a b h => (zRl_off h).trans (hpo a b h)) (zRl_le hpl) (by rw [zIt, ← hp]) (by omega)
        exact L39 _ 0 q (by omega) (fun a b h => by rw [hqr]; exact zRl0_off h) (fun k hk => by rw [hqr, zRl0_at hk]; split <;> omega) hqr (Nat.lt_succ_self _)
      · refine sw_aload_0 C dX1_stepsByRelaxing_10 ?_
        refine sw_getR C (o' := 29) fX1_25 rfl (by decide) rfl rfl (by decide) dX1_stepsByRelaxing_11 ?_
        refine sw_iload_3 C dX1_stepsByRelaxing_14 ?_
        refine sw_iload_2 C dX1_stepsByRelaxing_15 ?_
        refine sw_iload_3 C dX1_stepsByRelaxing_16 ?_
        refine sn_cS2r C vX5_contains lX1_34 dX1_stepsByRelaxing_17 (Nat.le_of_ble_eq_true rfl) (c_X5_contains hl (by omega)) (by decide) (by decide) (by decide) ?_
        refine sn_if_eqB C 27 dX1_stepsByRelaxing_20 (by decide) (fun c20 => ?_) (fun c20 => ?_)
        · refine sn_sipush C 1000 (by decide) dX1_stepsByRelaxing_27 ?_
          refine sn_iast C rfl (by decide) (by omega) (by decide) dX1_stepsByRelaxing_30 ?_
          refine sn_iinc_3 C rfl dX1_stepsByRelaxing_31 ?_
          refine sw_goto C 2 dX1_stepsByRelaxing_34 (by decide) ?_
          exact ih2 (i + 1) _ (by omega) (fun a b h => (zU_o h).trans (hqo a b h)) (by rw [zIt, ← hq, c20]; rfl) (by omega)
        · refine sn_iconst C 0 (by decide) dX1_stepsByRelaxing_23 ?_
          refine sw_goto C 30 dX1_stepsByRelaxing_24 (by decide) ?_
          refine sn_iast C rfl (by decide) (by omega) (by decide) dX1_stepsByRelaxing_30 ?_
          refine sn_iinc_3 C rfl dX1_stepsByRelaxing_31 ?_
          refine sw_goto C 2 dX1_stepsByRelaxing_34 (by decide) ?_
          exact ih2 (i + 1) _ (by omega) (fun a b h => (zU_o h).trans (hqo a b h)) (by rw [zIt, ← hq, c20]; rfl) (by omega)
  exact L2 _ 0 S (by omega) (fun _ _ _ => rfl) rfl (Nat.lt_succ_self _)
