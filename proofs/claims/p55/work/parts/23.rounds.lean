set_option maxRecDepth 100000 in
set_option maxHeartbeats 4000000 in
theorem c_X3_passRounds {l : Launch} (hl : l.stackTraces = false) {G : zG} {S : zS} {J : Int64} {E : UInt64} {n t : Nat} (hw : zNow S n t) {m : Nat} (hm : m ≤ 40) : nCR l G mX3_passRounds 4 0 0 [.ref 25, zi m] S J E (some (zi (zPassR n t m S).1)) (zPassR n t m S).2 J E := by
  refine nCR.of hl (by decide) rfl (Nat.le_of_ble_eq_true rfl) (ls := [some (.ref 25), some (zi m), none, none, none, none]) rfl (fun X C hF hX => ?_)
  subst hX
  obtain ⟨hn, hz, ht, ht4, hnb, hhv, hdb, hru⟩ := id hw
  refine sn_iconst C 0 (by decide) dX3_passRounds_0 ?_
  refine sw_istore_2 C rfl dX3_passRounds_1 ?_
  refine sn_iconst C 0 (by decide) dX3_passRounds_2 ?_
  refine sw_istore_3 C rfl dX3_passRounds_3 ?_
  have L4 : ∀ (k kk : Nat) (qq : Nat × zS) (u4 : Option Value) (u5 : Option Value), kk ≤ m → (zNow qq.2 n t) → (qq = zIt (fun _ q => zRound n t q) kk (0, S)) → m - kk < k → SN G X 0 0 4 [some (.ref 25), some (zi m), some (zi qq.1), some (zi kk), u4, u5] [] qq.2 J E := by
    intro k
    induction k with
    | zero => intro kk qq u4 u5 _ _ _ hk; exact absurd hk (by omega)
    | succ k ih4 =>
      intro kk qq u4 u5 hkk hwq hqq hk
      refine sw_iload_3 C dX3_passRounds_4 ?_
      refine sw_iload_1 C dX3_passRounds_5 ?_
      refine sn_icmp_ge C 97 (by omega) (by omega) dX3_passRounds_6 (by decide) (fun c6 => ?_) (fun c6 => ?_)
      · refine sw_iload_2 C dX3_passRounds_97 ?_
        exact sn_iret C rfl hF dX3_passRounds_98 (by decide) (by decide) (by rw [hqq, show kk = m from by omega]; rfl) (by rw [hqq, show kk = m from by omega]; rfl) rfl rfl
      · refine sn_iconst C 0 (by decide) dX3_passRounds_9 ?_
        refine sw_istore_4 C rfl dX3_passRounds_10 ?_
        have L12 : ∀ (k r : Nat) (q : Nat × zS) (u : Option Value), r ≤ t → (zNow q.2 n t) → (q = zIt (fun r q => zPass1 n r q) r qq) → t - r < k → SN G X 0 0 12 [some (.ref 25), some (zi m), some (zi q.1), some (zi kk), some (zi r), u] [] q.2 J E := by
          intro k
          induction k with
          | zero => intro r q u _ _ _ hk; exact absurd hk (by omega)
          | succ k ih12 =>
            intro r q u hr hw2 hq hk
            obtain ⟨hn2, hz2, ht2, ht42, hnb2, hhv2, hdb2, hru2⟩ := id hw2
            have hz1 := zSpread_off (S := q.2) (o := 33 + 2 * r) (n := n) (a := 25) (b := 6) (by omega) (by omega)
            refine sw_iload_4 C dX3_passRounds_12 ?_
            refine sw_aload_0 C dX3_passRounds_14 ?_
            refine sn_getI C fX3_31 rfl (by decide) rfl dX3_passRounds_15 ?_
            refine sn_icmp_ge C 81 (by omega) (by omega) dX3_passRounds_18 (by decide) (fun c18 => ?_) (fun c18 => ?_)
            · have hrt : r = t := by omega
              have eR : zRound n t qq = (q.1, zU q.2 25 5 (q.2 25 5 + 1)) := by unfold zRound; rw [← hrt, ← hq]
              refine sw_aload_0 C dX3_passRounds_81 ?_
              refine sw_dup C rfl dX3_passRounds_82 ?_
              refine sn_getI C fX3_35 rfl (by decide) rfl dX3_passRounds_83 ?_
              refine sn_iconst C 1 (by decide) dX3_passRounds_86 ?_
              refine sn_iadd C dX3_passRounds_87 ?_
              refine sn_putI C fX3_35 rfl (by decide) rfl rfl dX3_passRounds_88 ?_
              refine sn_iinc_3 C rfl dX3_passRounds_91 ?_
              refine sw_goto C 4 dX3_passRounds_94 (by decide) ?_
              have hb := ih4 (kk + 1) (zRound n t qq) (some (zi r)) u (by omega) (zRound_now hwq) (by rw [zIt, ← hqq]) (by omega)
              rw [eR] at hb
              exact hb
            · obtain ⟨f1, f2, f3, f4⟩ := hru2 r (by omega)
              obtain ⟨g1, g2, g3, g4⟩ := zSpread_rb (n := n) hz (hru2 r (by omega))
              refine sw_aload_0 C dX3_passRounds_21 ?_
              refine sw_getR C (o' := 32) fX3_27 rfl (by decide) rfl rfl (by decide) dX3_passRounds_22 ?_
              refine sw_iload_4 C dX3_passRounds_25 ?_
              refine sn_aald C (o' := (33 + 2 * r)) rfl (by decide) (by decide) (by omega) (by decide) (zP32 (by omega)) (by omega) dX3_passRounds_27 ?_
              refine sn_cV0r C vX2_aware lX3_98 (zRu0 (by omega)).1 (zRu0 (by omega)).2.1 rfl rfl dX3_passRounds_28 (Nat.le_of_ble_eq_true rfl) (c_X2_aware hl (zRu0 (by omega))) (by decide) (by decide) (by decide) ?_
              refine sn_cS1r C vJ6_bitCount_0f7a4 lX3_102 dX3_passRounds_31 (Nat.le_of_ble_eq_true rfl) (c_J6_bitCount_0f7a4 hl (zOr_lt f3 f4)) (by decide) (by decide) (by decide) ?_
              refine sw_istore_5 C rfl dX3_passRounds_34 ?_
              refine sw_iload_2 C dX3_passRounds_36 ?_
              refine sw_aload_0 C dX3_passRounds_37 ?_
              refine sw_aload_0 C dX3_passRounds_38 ?_
              refine sw_getR C (o' := 32) fX3_27 rfl (by decide) rfl rfl (by decide) dX3_passRounds_39 ?_
              refine sw_iload_4 C dX3_passRounds_42 ?_
              refine sn_aald C (o' := (33 + 2 * r)) rfl (by decide) (by decide) (by omega) (by decide) (zP32 (by omega)) (by omega) dX3_passRounds_44 ?_
              refine sn_cV1r C vX3_spreadOnce lX3_108 rfl (by decide) rfl rfl dX3_passRounds_45 (Nat.le_of_ble_eq_true rfl) (c_X3_spreadOnce hl hn2 hz (zRu0 (by omega)) (by omega) (by omega) hnb2 hdb2 f1 f2 f3 f4) (by decide) (by decide) (by decide) ?_
              refine sn_iadd C dX3_passRounds_48 ?_
              refine sw_istore_2 C rfl dX3_passRounds_49 ?_
              refine sw_aload_0 C dX3_passRounds_50 ?_
              refine sw_dup C rfl dX3_passRounds_51 ?_
              refine sn_getI C fX3_38 rfl (by decide) rfl dX3_passRounds_52 ?_
              refine sw_aload_0 C dX3_passRounds_55 ?_
              refine sw_getR C (o' := 32) fX3_27 rfl (by decide) rfl rfl (by decide) dX3_passRounds_56 ?_
              refine sw_iload_4 C dX3_passRounds_59 ?_
              refine sn_aald C (o' := (33 + 2 * r)) rfl (by decide) (by decide) (by omega) (by decide) (zP32 (by omega)) (by omega) dX3_passRounds_61 ?_
              refine sn_cV0r C vX2_aware lX3_98 (zRu0 (by omega)).1 (zRu0 (by omega)).2.1 rfl rfl dX3_passRounds_62 (Nat.le_of_ble_eq_true rfl) (c_X2_aware hl (zRu0 (by omega))) (by decide) (by decide) (by decide) ?_
              refine sn_cS1r C vJ6_bitCount_0f7a4 lX3_102 dX3_passRounds_65 (Nat.le_of_ble_eq_true rfl) (c_J6_bitCount_0f7a4 hl (zOr_lt g3 g4)) (by decide) (by decide) (by decide) ?_
              refine sw_iload_5 C dX3_passRounds_68 ?_
              refine sn_isub C (by exact zSpread_aw) dX3_passRounds_70 ?_
              refine sn_iadd C dX3_passRounds_71 ?_
              refine sn_putI C fX3_38 rfl (by decide) rfl rfl dX3_passRounds_72 ?_
              refine sn_iinc_4 C rfl dX3_passRounds_75 ?_
              refine sw_goto C 12 dX3_passRounds_78 (by decide) ?_
              exact ih12 (r + 1) (zPass1 n r q) _ (by omega) (zPass1_now hw2 (by omega)) (by rw [zIt, ← hq]) (by omega)
        exact L12 _ 0 qq _ (by omega) hwq rfl (Nat.lt_succ_self _)
  exact L4 _ 0 (0, S) _ _ (by omega) hw rfl (Nat.lt_succ_self _)

theorem zB01 {x : Nat} (h : x ≤ 1) : x = (decide (x = 1)).toNat := by
  rcases (show x = 0 ∨ x = 1 by omega) with rfl | rfl <;> rfl
def zCome2 (S : zS) (o n : Nat) : Nat := zcnt n (fun e => decide (¬ S o 2 = 0) && (zHears S o e && zBelv S o e))
def zMem (S : zS) (n h : Nat) : Nat := zmask n (fun e => decide (S 30 e = h))
def zMost (S : zS) (n g : Nat) : Nat × Nat := zIt (fun h q => if q.2 < zpop (g &&& zMem S n h) then (h, zpop (g &&& zMem S n h)) else q) 4 (0, 0)
def zSA (S : zS) (x y : Nat) : Bool := if zpop (S (33 + 2 * x) 3) = zpop (S (33 + 2 * y) 3) then (if S (33 + 2 * x) 2 = S (33 + 2 * y) 2 then decide (x < y) else decide (S (33 + 2 * x) 2 = 1)) else decide (zpop (S (33 + 2 * y) 3) < zpop (S (33 + 2 * x) 3))
def zGos (S : zS) (t e : Nat) : Nat := zcnt t (fun r => (S (33 + 2 * r) 3).testBit e)
def zGA (S : zS) (t x y : Nat) : Bool := if zGos S t x = zGos S t y then (if S 31 x = S 31 y then decide (x < y) else decide (S 31 x < S 31 y)) else decide (zGos S t y < zGos S t x)
def zFind (p : Nat → Bool) : Nat → Nat → Nat
  | 0, _ => 4294967295
  | k + 1, i => if p i then i else zFind p k (i + 1)
def zRkR (S : zS) (t r : Nat) : Nat := zcnt t (fun x => decide (¬ x = r) && zSA S x r)
def zRkL (S : zS) (n t e : Nat) : Nat := zcnt n (fun x => decide (¬ x = e) && zGA S t x e)
def zGsp (S : zS) (t : Nat) : Nat := zIt (fun r m => m ||| S (33 + 2 * r) 3) t 0
def zDsum (S : zS) (n : Nat) : Nat := zIt (fun e s => s + S 31 e) n 0

set_option maxRecDepth 100000 in
set_option maxHeartbeats 4000000 in
theorem c_X3_believersToCome {l : Launch} (hl : l.stackTraces = false) {G : zG} {S : zS} {J : Int64} {E : UInt64} {n t : Nat} (hw : zNow S n t) {o : Nat} (hr : zRu o) (hb : zRb S o) : nCR l G mX3_believersToCome 3 0 0 [.ref 25, .ref o] S J E (some (zi (zCome2 S o n))) S J E := by
  refine nCR.of hl (by decide) rfl (Nat.le_of_ble_eq_true rfl) (ls := [some (.ref 25), some (.ref o), none, none]) rfl (fun X C hF hX => ?_)
  subst hX
  obtain ⟨hn, hz, ht, ht4, hnb, hhv, hdb, hru⟩ := id hw
  obtain ⟨f1, f2, f3, f4⟩ := hb
  refine sn_iconst C 0 (by decide) dX3_believersToCome_0 ?_
  refine sw_istore_2 C rfl dX3_believersToCome_1 ?_
  refine sn_iconst C 0 (by decide) dX3_believersToCome_2 ?_
  refine sw_istore_3 C rfl dX3_believersToCome_3 ?_
  have L4 : ∀ (k i : Nat) (c : Nat), i ≤ n → (c = zcnt i (fun e => decide (¬ S o 2 = 0) && (zHears S o e && zBelv S o e))) → n - i < k → SN G X 0 0 4 [some (.ref 25), some (.ref o), some (zi c), some (zi i)] [] S J E := by
    intro k
    induction k with
    | zero => intro i c _ _ hk; exact absurd hk (by omega)
    | succ k ih4 =>
      intro i c hi hc hk
      refine sw_iload_3 C dX3_believersToCome_4 ?_
      refine sw_aload_0 C dX3_believersToCome_5 ?_
      refine sw_getR C (o' := 26) fX3_12 rfl (by decide) rfl rfl (by decide) dX3_believersToCome_6 ?_
      refine sn_getI C fX3_58 rfl (by decide) rfl dX3_believersToCome_9 ?_
      refine sn_icmp_ge C 49 (by omega) (by omega) dX3_believersToCome_12 (by decide) (fun c12 => ?_) (fun c12 => ?_)
      · refine sw_iload_2 C dX3_believersToCome_49 ?_
        exact sn_iret C rfl hF dX3_believersToCome_50 (by decide) (by decide) (by rw [hc, show i = n from by omega]; rfl) rfl rfl rfl
      · refine sw_aload_1 C dX3_believersToCome_15 ?_
        refine sn_getI C fX3_94 hr.1 hr.2.1 rfl dX3_believersToCome_16 ?_
        refine sn_if_eq C 43 (by omega) dX3_believersToCome_19 (by decide) (fun c19 => ?_) (fun c19 => ?_)
        · refine sn_iinc_3 C rfl dX3_believersToCome_43 ?_
          refine sw_goto C 4 dX3_believersToCome_46 (by decide) ?_
          exact ih4 (i + 1) _ (by omega) (by rw [zcnt, zIt, ← zcnt, ← hc]; first | simp [c19, c28, c37] | simp [c19, c28] | simp [c19]) (by omega)
        · refine sw_aload_0 C dX3_believersToCome_22 ?_
          refine sw_aload_1 C dX3_believersToCome_23 ?_
          refine sw_iload_3 C dX3_believersToCome_24 ?_
          refine sn_cV2r C vX3_hears lX3_112 rfl (by decide) rfl rfl dX3_believersToCome_25 (Nat.le_of_ble_eq_true rfl) (c_X3_hears hl hr (by omega) hnb) (by decide) (by decide) (by decide) ?_
          refine sn_if_eqB C 43 dX3_believersToCome_28 (by decide) (fun c28 => ?_) (fun c28 => ?_)
          · refine sn_iinc_3 C rfl dX3_believersToCome_43 ?_
            refine sw_goto C 4 dX3_believersToCome_46 (by decide) ?_
            exact ih4 (i + 1) _ (by omega) (by rw [zcnt, zIt, ← zcnt, ← hc]; first | simp [c19, c28, c37] | simp [c19, c28] | simp [c19]) (by omega)
          · refine sw_aload_0 C dX3_believersToCome_31 ?_
            refine sw_aload_1 C dX3_believersToCome_32 ?_
            refine sw_iload_3 C dX3_believersToCome_33 ?_
            refine sn_cV2r C vX3_believes lX3_119 rfl (by decide) rfl rfl dX3_believersToCome_34 (Nat.le_of_ble_eq_true rfl) (c_X3_believes hl hr (by omega) hnb f1 (hdb i (by omega))) (by decide) (by decide) (by decide) ?_
            refine sn_if_eqB C 43 dX3_believersToCome_37 (by decide) (fun c37 => ?_) (fun c37 => ?_)
            · refine sn_iinc_3 C rfl dX3_believersToCome_43 ?_
              refine sw_goto C 4 dX3_believersToCome_46 (by decide) ?_
              exact ih4 (i + 1) _ (by omega) (by rw [zcnt, zIt, ← zcnt, ← hc]; first | simp [c19, c28, c37] | simp [c19, c28] | simp [c19]) (by omega)
            · refine sn_iinc_2 C rfl dX3_believersToCome_40 ?_
              refine sn_iinc_3 C rfl dX3_believersToCome_43 ?_
              refine sw_goto C 4 dX3_believersToCome_46 (by decide) ?_
              exact ih4 (i + 1) _ (by omega) (by rw [zcnt, zIt, ← zcnt, ← hc]; first | simp [c19, c28, c37] | simp [c19, c28] | simp [c19]) (by omega)
  exact L4 _ 0 0 (by omega) rfl (Nat.lt_succ_self _)

set_option maxRecDepth 100000 in
set_option maxHeartbeats 4000000 in
theorem c_X3_membersOf {l : Launch} (hl : l.stackTraces = false) {G : zG} {S : zS} {J : Int64} {E : UInt64} {n : Nat} (hn : S 26 0 = n) (hz : n ≤ 12) (hhv : ∀ e, e < 12 → S 30 e < 4) {h : Nat} (hh : h < 2 ^ 32) : nCR l G mX3_membersOf 0 0 0 [.ref 25, zi h] S J E (some (zi (zMem S n h))) S J E := by
  refine nCR.of hl (by decide) rfl (Nat.le_of_ble_eq_true rfl) (ls := [some (.ref 25), some (zi h), none, none]) rfl (fun X C hF hX => ?_)
  subst hX
  refine sn_iconst C 0 (by decide) dX3_membersOf_0 ?_
  refine sw_istore_2 C rfl dX3_membersOf_1 ?_
  refine sn_iconst C 0 (by decide) dX3_membersOf_2 ?_
  refine sw_istore_3 C rfl dX3_membersOf_3 ?_
  have L4 : ∀ (k i : Nat) (c : Nat), i ≤ n → (c = zmask i (fun e => decide (S 30 e = h))) → n - i < k → SN G X 0 0 4 [some (.ref 25), some (zi h), some (zi c), some (zi i)] [] S J E := by
    intro k
    induction k with
    | zero => intro i c _ _ hk; exact absurd hk (by omega)
    | succ k ih4 =>
      intro i c hi hc hk
      have hhi := hhv
      refine sw_iload_3 C dX3_membersOf_4 ?_
      refine sw_aload_0 C dX3_membersOf_5 ?_
      refine sw_getR C (o' := 26) fX3_12 rfl (by decide) rfl rfl (by decide) dX3_membersOf_6 ?_
      refine sn_getI C fX3_58 rfl (by decide) rfl dX3_membersOf_9 ?_
      refine sn_icmp_ge C 37 (by omega) (by omega) dX3_membersOf_12 (by decide) (fun c12 => ?_) (fun c12 => ?_)
      · refine sw_iload_2 C dX3_membersOf_37 ?_
        exact sn_iret C rfl hF dX3_membersOf_38 (by decide) (by decide) (by rw [hc, show i = n from by omega]; rfl) rfl rfl rfl
      · refine sw_aload_0 C dX3_membersOf_15 ?_
        refine sw_getR C (o' := 30) fX3_18 rfl (by decide) rfl rfl (by decide) dX3_membersOf_16 ?_
        refine sw_iload_3 C dX3_membersOf_19 ?_
        refine sn_iald C rfl (by decide) (by omega) (by decide) dX3_membersOf_20 ?_
        refine sw_iload_1 C dX3_membersOf_21 ?_
        refine sn_icmp_ne C 31 (by have := hhv i (by omega); omega) hh dX3_membersOf_22 (by decide) (fun c22 => ?_) (fun c22 => ?_)
        · refine sn_iinc_3 C rfl dX3_membersOf_31 ?_
          refine sw_goto C 4 dX3_membersOf_34 (by decide) ?_
          exact ih4 (i + 1) _ (by omega) (by rw [zmask, zIt, ← zmask, ← hc]; simp [c22]) (by omega)
        · refine sw_iload_2 C dX3_membersOf_25 ?_
          refine sn_iconst C 1 (by decide) dX3_membersOf_26 ?_
          refine sw_iload_3 C dX3_membersOf_27 ?_
          refine sn_ishl C (by omega) dX3_membersOf_28 ?_
          refine sn_ior C dX3_membersOf_29 ?_
          refine sw_istore_2 C rfl dX3_membersOf_30 ?_
          refine sn_iinc_3 C rfl dX3_membersOf_31 ?_
          refine sw_goto C 4 dX3_membersOf_34 (by decide) ?_
          exact ih4 (i + 1) _ (by omega) (by rw [zmask, zIt, ← zmask, ← hc]; simp [c22]) (by omega)
  exact L4 _ 0 0 (by omega) rfl (Nat.lt_succ_self _)

set_option maxRecDepth 100000 in
set_option maxHeartbeats 4000000 in
theorem c_X3_hiveWithMost {l : Launch} (hl : l.stackTraces = false) {G : zG} {S : zS} {J : Int64} {E : UInt64} {n : Nat} (hn : S 26 0 = n) (hz : n ≤ 12) (hhv : ∀ e, e < 12 → S 30 e < 4) {g : Nat} (hg : g < 4096) : nCR l G mX3_hiveWithMost 1 0 0 [.ref 25, zi g] S J E (some (zi (zMost S n g).1)) S J E := by
  refine nCR.of hl (by decide) rfl (Nat.le_of_ble_eq_true rfl) (ls := [some (.ref 25), some (zi g), none, none, none, none]) rfl (fun X C hF hX => ?_)
  subst hX
  refine sn_iconst C 0 (by decide) dX3_hiveWithMost_0 ?_
  refine sw_istore_2 C rfl dX3_hiveWithMost_1 ?_
  refine sn_iconst C 0 (by decide) dX3_hiveWithMost_2 ?_
  refine sw_istore_3 C rfl dX3_hiveWithMost_3 ?_
  refine sn_iconst C 0 (by decide) dX3_hiveWithMost_4 ?_
  refine sw_istore_4 C rfl dX3_hiveWithMost_5 ?_
  have L7 : ∀ (k i : Nat) (q : Nat × Nat) (u : Option Value), i ≤ 4 → (q.2 ≤ 12) → (q = zIt (fun h q => if q.2 < zpop (g &&& zMem S n h) then (h, zpop (g &&& zMem S n h)) else q) i (0, 0)) → 4 - i < k → SN G X 0 0 7 [some (.ref 25), some (zi g), some (zi q.1), some (zi q.2), some (zi i), u] [] S J E := by
    intro k
    induction k with
    | zero => intro i q u _ _ _ hk; exact absurd hk (by omega)
    | succ k ih7 =>
      intro i q u hi hl2 hq hk
      refine sw_iload_4 C dX3_hiveWithMost_7 ?_
      refine sn_iconst C 4 (by decide) dX3_hiveWithMost_9 ?_
      refine sn_icmp_ge C 44 (by omega) (by omega) dX3_hiveWithMost_10 (by decide) (fun c10 => ?_) (fun c10 => ?_)
      · refine sw_iload_2 C dX3_hiveWithMost_44 ?_
        exact sn_iret C rfl hF dX3_hiveWithMost_45 (by decide) (by decide) (by rw [hq, show i = 4 from by omega]; rfl) rfl rfl rfl
      · refine sw_iload_1 C dX3_hiveWithMost_13 ?_
        refine sw_aload_0 C dX3_hiveWithMost_14 ?_
        refine sw_iload_4 C dX3_hiveWithMost_15 ?_
        refine sn_cV1r C vX3_membersOf lX3_128 rfl (by decide) rfl rfl dX3_hiveWithMost_17 (Nat.le_of_ble_eq_true rfl) (c_X3_membersOf hl hn hz hhv (by omega)) (by decide) (by decide) (by decide) ?_
        refine sn_iand C dX3_hiveWithMost_20 ?_
        refine sn_cS1r C vJ6_bitCount_0f7a4 lX3_102 dX3_hiveWithMost_21 (Nat.le_of_ble_eq_true rfl) (c_J6_bitCount_0f7a4 hl (zAnd_lt hg)) (by decide) (by decide) (by decide) ?_
        refine sw_istore_5 C rfl dX3_hiveWithMost_24 ?_
        have hpl := zpop_le (g &&& zMem S n i)
        refine sw_iload_5 C dX3_hiveWithMost_26 ?_
        refine sw_iload_3 C dX3_hiveWithMost_28 ?_
        refine sn_icmp_le C 38 (by omega) (by omega) dX3_hiveWithMost_29 (by decide) (fun c29 => ?_) (fun c29 => ?_)
        · refine sn_iinc_4 C rfl dX3_hiveWithMost_38 ?_
          refine sw_goto C 7 dX3_hiveWithMost_41 (by decide) ?_
          first | exact ih7 (i + 1) q _ (by omega) hl2 (by rw [zIt, ← hq, if_neg (by omega)]) (by omega) | exact ih7 (i + 1) (i, zpop (g &&& zMem S n i)) _ (by omega) (by have := zpop_le (g &&& zMem S n i); omega) (by rw [zIt, ← hq, if_pos (by omega)]) (by omega)
        · refine sw_iload_4 C dX3_hiveWithMost_32 ?_
          refine sw_istore_2 C rfl dX3_hiveWithMost_34 ?_
          refine sw_iload_5 C dX3_hiveWithMost_35 ?_
          refine sw_istore_3 C rfl dX3_hiveWithMost_37 ?_
          refine sn_iinc_4 C rfl dX3_hiveWithMost_38 ?_
          refine sw_goto C 7 dX3_hiveWithMost_41 (by decide) ?_
          first | exact ih7 (i + 1) q _ (by omega) hl2 (by rw [zIt, ← hq, if_neg (by omega)]) (by omega) | exact ih7 (i + 1) (i, zpop (g &&& zMem S n i)) _ (by omega) (by have := zpop_le (g &&& zMem S n i); omega) (by rw [zIt, ← hq, if_pos (by omega)]) (by omega)
  exact L7 _ 0 (0, 0) _ (by omega) (by decide) rfl (Nat.lt_succ_self _)

set_option maxRecDepth 100000 in
set_option maxHeartbeats 4000000 in
theorem c_X3_spreadBy {l : Launch} (hl : l.stackTraces = false) {G : zG} {S : zS} {J : Int64} {E : UInt64} {t : Nat} (ht : S 25 4 = t) (ht4 : t ≤ 4) {e : Nat} (he : e < 12) : nCR l G mX3_spreadBy 1 0 0 [.ref 25, zi e] S J E (some (zi (zGos S t e))) S J E := by
  refine nCR.of hl (by decide) rfl (Nat.le_of_ble_eq_true rfl) (ls := [some (.ref 25), some (zi e), none, none]) rfl (fun X C hF hX => ?_)
  subst hX
  refine sn_iconst C 0 (by decide) dX3_spreadBy_0 ?_
  refine sw_istore_2 C rfl dX3_spreadBy_1 ?_
  refine sn_iconst C 0 (by decide) dX3_spreadBy_2 ?_
  refine sw_istore_3 C rfl dX3_spreadBy_3 ?_
  have L4 : ∀ (k i : Nat) (c : Nat), i ≤ t → (c = zcnt i (fun r => (S (33 + 2 * r) 3).testBit e)) → t - i < k → SN G X 0 0 4 [some (.ref 25), some (zi e), some (zi c), some (zi i)] [] S J E := by
    intro k
    induction k with
    | zero => intro i c _ _ hk; exact absurd hk (by omega)
    | succ k ih4 =>
      intro i c hi hc hk
      refine sw_iload_3 C dX3_spreadBy_4 ?_
      refine sw_aload_0 C dX3_spreadBy_5 ?_
      refine sn_getI C fX3_31 rfl (by decide) rfl dX3_spreadBy_6 ?_
      refine sn_icmp_ge C 37 (by omega) (by omega) dX3_spreadBy_9 (by decide) (fun c9 => ?_) (fun c9 => ?_)
      · refine sw_iload_2 C dX3_spreadBy_37 ?_
        exact sn_iret C rfl hF dX3_spreadBy_38 (by decide) (by decide) (by rw [hc, show i = t from by omega]; rfl) rfl rfl rfl
      · refine sw_aload_0 C dX3_spreadBy_12 ?_
        refine sw_getR C (o' := 32) fX3_27 rfl (by decide) rfl rfl (by decide) dX3_spreadBy_13 ?_
        refine sw_iload_3 C dX3_spreadBy_16 ?_
        refine sn_aald C (o' := (33 + 2 * i)) rfl (by decide) (by decide) (by omega) (by decide) (zP32 (by omega)) (by omega) dX3_spreadBy_17 ?_
        refine sn_getI C fX3_82 (zRu0 (by omega)).1 (zRu0 (by omega)).2.1 rfl dX3_spreadBy_18 ?_
        refine sw_iload_1 C dX3_spreadBy_21 ?_
        refine sn_cS2r C vX5_contains lX3_85 dX3_spreadBy_22 (Nat.le_of_ble_eq_true rfl) (c_X5_contains hl (by omega)) (by decide) (by decide) (by decide) ?_
        refine sn_if_eqB C 31 dX3_spreadBy_25 (by decide) (fun c25 => ?_) (fun c25 => ?_)
        · refine sn_iinc_3 C rfl dX3_spreadBy_31 ?_
          refine sw_goto C 4 dX3_spreadBy_34 (by decide) ?_
          exact ih4 (i + 1) _ (by omega) (by rw [zcnt, zIt, ← zcnt, ← hc]; simp [c25]) (by omega)
        · refine sn_iinc_2 C rfl dX3_spreadBy_28 ?_
          refine sn_iinc_3 C rfl dX3_spreadBy_31 ?_
          refine sw_goto C 4 dX3_spreadBy_34 (by decide) ?_
          exact ih4 (i + 1) _ (by omega) (by rw [zcnt, zIt, ← zcnt, ← hc]; simp [c25]) (by omega)
  exact L4 _ 0 0 (by omega) rfl (Nat.lt_succ_self _)

set_option maxRecDepth 100000 in
set_option maxHeartbeats 4000000 in
theorem c_X3_gossips {l : Launch} (hl : l.stackTraces = false) {G : zG} {S : zS} {J : Int64} {E : UInt64} {t : Nat} (ht : S 25 4 = t) (ht4 : t ≤ 4) : nCR l G mX3_gossips 0 0 0 [.ref 25] S J E (some (zi (zGsp S t))) S J E := by
  refine nCR.of hl (by decide) rfl (Nat.le_of_ble_eq_true rfl) (ls := [some (.ref 25), none, none]) rfl (fun X C hF hX => ?_)
  subst hX
  refine sn_iconst C 0 (by decide) dX3_gossips_0 ?_
  refine sw_istore_1 C rfl dX3_gossips_1 ?_
  refine sn_iconst C 0 (by decide) dX3_gossips_2 ?_
  refine sw_istore_2 C rfl dX3_gossips_3 ?_
  have L4 : ∀ (k i : Nat) (c : Nat), i ≤ t → (c = zIt (fun r m => m ||| S (33 + 2 * r) 3) i 0) → t - i < k → SN G X 0 0 4 [some (.ref 25), some (zi c), some (zi i)] [] S J E := by
    intro k
    induction k with
    | zero => intro i c _ _ hk; exact absurd hk (by omega)
    | succ k ih4 =>
      intro i c hi hc hk
      refine sw_iload_2 C dX3_gossips_4 ?_
      refine sw_aload_0 C dX3_gossips_5 ?_
      refine sn_getI C fX3_31 rfl (by decide) rfl dX3_gossips_6 ?_
      refine sn_icmp_ge C 30 (by omega) (by omega) dX3_gossips_9 (by decide) (fun c9 => ?_) (fun c9 => ?_)
      · refine sw_iload_1 C dX3_gossips_30 ?_
        exact sn_iret C rfl hF dX3_gossips_31 (by decide) (by decide) (by rw [hc, show i = t from by omega]; rfl) rfl rfl rfl
      · refine sw_iload_1 C dX3_gossips_12 ?_
        refine sw_aload_0 C dX3_gossips_13 ?_
        refine sw_getR C (o' := 32) fX3_27 rfl (by decide) rfl rfl (by decide) dX3_gossips_14 ?_
        refine sw_iload_2 C dX3_gossips_17 ?_
        refine sn_aald C (o' := (33 + 2 * i)) rfl (by decide) (by decide) (by omega) (by decide) (zP32 (by omega)) (by omega) dX3_gossips_18 ?_
        refine sn_getI C fX3_82 (zRu0 (by omega)).1 (zRu0 (by omega)).2.1 rfl dX3_gossips_19 ?_
        refine sn_ior C dX3_gossips_22 ?_
        refine sw_istore_1 C rfl dX3_gossips_23 ?_
        refine sn_iinc_2 C rfl dX3_gossips_24 ?_
        refine sw_goto C 4 dX3_gossips_27 (by decide) ?_
        exact ih4 (i + 1) _ (by omega) (by rw [zIt, ← hc]) (by omega)
  exact L4 _ 0 0 (by omega) rfl (Nat.lt_succ_self _)

set_option maxRecDepth 100000 in
set_option maxHeartbeats 4000000 in
theorem c_X3_sumOfDoubts {l : Launch} (hl : l.stackTraces = false) {G : zG} {S : zS} {J : Int64} {E : UInt64} {n : Nat} (hn : S 26 0 = n) (hz : n ≤ 12) : nCR l G mX3_sumOfDoubts 0 0 0 [.ref 25] S J E (some (zi (zDsum S n))) S J E := by
  refine nCR.of hl (by decide) rfl (Nat.le_of_ble_eq_true rfl) (ls := [some (.ref 25), none, none]) rfl (fun X C hF hX => ?_)
  subst hX
  refine sn_iconst C 0 (by decide) dX3_sumOfDoubts_0 ?_
  refine sw_istore_1 C rfl dX3_sumOfDoubts_1 ?_
  refine sn_iconst C 0 (by decide) dX3_sumOfDoubts_2 ?_
  refine sw_istore_2 C rfl dX3_sumOfDoubts_3 ?_
  have L4 : ∀ (k i : Nat) (c : Nat), i ≤ n → (c = zIt (fun e s => s + S 31 e) i 0) → n - i < k → SN G X 0 0 4 [some (.ref 25), some (zi c), some (zi i)] [] S J E := by
    intro k
    induction k with
    | zero => intro i c _ _ hk; exact absurd hk (by omega)
    | succ k ih4 =>
      intro i c hi hc hk
      refine sw_iload_2 C dX3_sumOfDoubts_4 ?_
      refine sw_aload_0 C dX3_sumOfDoubts_5 ?_
      refine sw_getR C (o' := 26) fX3_12 rfl (by decide) rfl rfl (by decide) dX3_sumOfDoubts_6 ?_
      refine sn_getI C fX3_58 rfl (by decide) rfl dX3_sumOfDoubts_9 ?_
      refine sn_icmp_ge C 30 (by omega) (by omega) dX3_sumOfDoubts_12 (by decide) (fun c12 => ?_) (fun c12 => ?_)
      · refine sw_iload_1 C dX3_sumOfDoubts_30 ?_
        exact sn_iret C rfl hF dX3_sumOfDoubts_31 (by decide) (by decide) (by rw [hc, show i = n from by omega]; rfl) rfl rfl rfl
      · refine sw_iload_1 C dX3_sumOfDoubts_15 ?_
        refine sw_aload_0 C dX3_sumOfDoubts_16 ?_
        refine sw_getR C (o' := 31) fX3_22 rfl (by decide) rfl rfl (by decide) dX3_sumOfDoubts_17 ?_
        refine sw_iload_2 C dX3_sumOfDoubts_20 ?_
        refine sn_iald C rfl (by decide) (by omega) (by decide) dX3_sumOfDoubts_21 ?_
        refine sn_iadd C dX3_sumOfDoubts_22 ?_
        refine sw_istore_1 C rfl dX3_sumOfDoubts_23 ?_
        refine sn_iinc_2 C rfl dX3_sumOfDoubts_24 ?_
        refine sw_goto C 4 dX3_sumOfDoubts_27 (by decide) ?_
        exact ih4 (i + 1) _ (by omega) (by rw [zIt, ← hc]) (by omega)
  exact L4 _ 0 0 (by omega) rfl (Nat.lt_succ_self _)

set_option maxRecDepth 100000 in
set_option maxHeartbeats 4000000 in
theorem c_X3_spreadsAhead {l : Launch} (hl : l.stackTraces = false) {G : zG} {S : zS} {J : Int64} {E : UInt64} (hru : ∀ r, r < 4 → zRb S (33 + 2 * r)) {x y : Nat} (hx : x < 4) (hy : y < 4) : nCR l G mX3_spreadsAhead 1 0 0 [.ref 25, zi x, zi y] S J E (some (zi (zSA S x y).toNat)) S J E := by
  refine nCR.of hl (by decide) rfl (Nat.le_of_ble_eq_true rfl) (ls := [some (.ref 25), some (zi x), some (zi y), none, none]) rfl (fun X C hF hX => ?_)
  subst hX
  obtain ⟨f1, f2, f3, f4⟩ := hru x (by omega)
  obtain ⟨g1, g2, g3, g4⟩ := hru y (by omega)
  have p1 := zpop_le (S (33 + 2 * x) 3)
  have p2 := zpop_le (S (33 + 2 * y) 3)
  refine sw_aload_0 C dX3_spreadsAhead_0 ?_
  refine sw_getR C (o' := 32) fX3_27 rfl (by decide) rfl rfl (by decide) dX3_spreadsAhead_1 ?_
  refine sw_iload_1 C dX3_spreadsAhead_4 ?_
  refine sn_aald C (o' := (33 + 2 * x)) rfl (by decide) (by decide) (by omega) (by decide) (zP32 (by omega)) (by omega) dX3_spreadsAhead_5 ?_
  refine sn_getI C fX3_82 (zRu0 (by omega)).1 (zRu0 (by omega)).2.1 rfl dX3_spreadsAhead_6 ?_
  refine sn_cS1r C vJ6_bitCount_0f7a4 lX3_102 dX3_spreadsAhead_9 (Nat.le_of_ble_eq_true rfl) (c_J6_bitCount_0f7a4 hl f3) (by decide) (by decide) (by decide) ?_
  refine sw_istore_3 C rfl dX3_spreadsAhead_12 ?_
  refine sw_aload_0 C dX3_spreadsAhead_13 ?_
  refine sw_getR C (o' := 32) fX3_27 rfl (by decide) rfl rfl (by decide) dX3_spreadsAhead_14 ?_
  refine sw_iload_2 C dX3_spreadsAhead_17 ?_
  refine sn_aald C (o' := (33 + 2 * y)) rfl (by decide) (by decide) (by omega) (by decide) (zP32 (by omega)) (by omega) dX3_spreadsAhead_18 ?_
  refine sn_getI C fX3_82 (zRu0 (by omega)).1 (zRu0 (by omega)).2.1 rfl dX3_spreadsAhead_19 ?_
  refine sn_cS1r C vJ6_bitCount_0f7a4 lX3_102 dX3_spreadsAhead_22 (Nat.le_of_ble_eq_true rfl) (c_J6_bitCount_0f7a4 hl g3) (by decide) (by decide) (by decide) ?_
  refine sw_istore_4 C rfl dX3_spreadsAhead_25 ?_
  refine sw_iload_3 C dX3_spreadsAhead_27 ?_
  refine sw_iload_4 C dX3_spreadsAhead_28 ?_
  refine sn_icmp_eq C 45 (by omega) (by omega) dX3_spreadsAhead_30 (by decide) (fun c30 => ?_) (fun c30 => ?_)
  · refine sw_aload_0 C dX3_spreadsAhead_45 ?_
    refine sw_getR C (o' := 32) fX3_27 rfl (by decide) rfl rfl (by decide) dX3_spreadsAhead_46 ?_
    refine sw_iload_1 C dX3_spreadsAhead_49 ?_
    refine sn_aald C (o' := (33 + 2 * x)) rfl (by decide) (by decide) (by omega) (by decide) (zP32 (by omega)) (by omega) dX3_spreadsAhead_50 ?_
    refine sn_getI C fX3_94 (zRu0 (by omega)).1 (zRu0 (by omega)).2.1 rfl dX3_spreadsAhead_51 ?_
    refine sw_aload_0 C dX3_spreadsAhead_54 ?_
    refine sw_getR C (o' := 32) fX3_27 rfl (by decide) rfl rfl (by decide) dX3_spreadsAhead_55 ?_
    refine sw_iload_2 C dX3_spreadsAhead_58 ?_
    refine sn_aald C (o' := (33 + 2 * y)) rfl (by decide) (by decide) (by omega) (by decide) (zP32 (by omega)) (by omega) dX3_spreadsAhead_59 ?_
    refine sn_getI C fX3_94 (zRu0 (by omega)).1 (zRu0 (by omega)).2.1 rfl dX3_spreadsAhead_60 ?_
    refine sn_icmp_eq C 76 (by omega) (by omega) dX3_spreadsAhead_63 (by decide) (fun c63 => ?_) (fun c63 => ?_)
    · refine sw_iload_1 C dX3_spreadsAhead_76 ?_
      refine sw_iload_2 C dX3_spreadsAhead_77 ?_
      refine sn_icmp_ge C 85 (by omega) (by omega) dX3_spreadsAhead_78 (by decide) (fun c78 => ?_) (fun c78 => ?_)
      · refine sn_iconst C 0 (by decide) dX3_spreadsAhead_85 ?_
        exact sn_zret C (v := false) rfl hF dX3_spreadsAhead_86 (by decide) (by decide) (by unfold zSA; split <;> (try split) <;> first | omega | (simp_all; done) | (simp_all; omega)) rfl rfl rfl
      · refine sn_iconst C 1 (by decide) dX3_spreadsAhead_81 ?_
        refine sw_goto C 86 dX3_spreadsAhead_82 (by decide) ?_
        exact sn_zret C (v := true) rfl hF dX3_spreadsAhead_86 (by decide) (by decide) (by unfold zSA; split <;> (try split) <;> first | omega | (simp_all; done) | (simp_all; omega)) rfl rfl rfl
    · refine sw_aload_0 C dX3_spreadsAhead_66 ?_
      refine sw_getR C (o' := 32) fX3_27 rfl (by decide) rfl rfl (by decide) dX3_spreadsAhead_67 ?_
      refine sw_iload_1 C dX3_spreadsAhead_70 ?_
      refine sn_aald C (o' := (33 + 2 * x)) rfl (by decide) (by decide) (by omega) (by decide) (zP32 (by omega)) (by omega) dX3_spreadsAhead_71 ?_
      refine sn_getI C fX3_94 (zRu0 (by omega)).1 (zRu0 (by omega)).2.1 rfl dX3_spreadsAhead_72 ?_
      rw [zB01 f2]
      exact sn_zret C (v := decide (S (33 + 2 * x) 2 = 1)) rfl hF dX3_spreadsAhead_75 (by decide) (by decide) (by unfold zSA; rw [if_pos c30, if_neg c63]) rfl rfl rfl
  · refine sw_iload_3 C dX3_spreadsAhead_33 ?_
    refine sw_iload_4 C dX3_spreadsAhead_34 ?_
    refine sn_icmp_le C 43 (by omega) (by omega) dX3_spreadsAhead_36 (by decide) (fun c36 => ?_) (fun c36 => ?_)
    · refine sn_iconst C 0 (by decide) dX3_spreadsAhead_43 ?_
      exact sn_zret C (v := false) rfl hF dX3_spreadsAhead_44 (by decide) (by decide) (by unfold zSA; split <;> (try split) <;> first | omega | (simp_all; done) | (simp_all; omega)) rfl rfl rfl
    · refine sn_iconst C 1 (by decide) dX3_spreadsAhead_39 ?_
      refine sw_goto C 44 dX3_spreadsAhead_40 (by decide) ?_
      exact sn_zret C (v := true) rfl hF dX3_spreadsAhead_44 (by decide) (by decide) (by unfold zSA; split <;> (try split) <;> first | omega | (simp_all; done) | (simp_all; omega)) rfl rfl rfl

set_option maxRecDepth 100000 in
set_option maxHeartbeats 4000000 in
theorem c_X3_gossipsAhead {l : Launch} (hl : l.stackTraces = false) {G : zG} {S : zS} {J : Int64} {E : UInt64} {t : Nat} (ht : S 25 4 = t) (ht4 : t ≤ 4) (hdb : ∀ e, e < 12 → S 31 e ≤ 9) {x y : Nat} (hx : x < 12) (hy : y < 12) : nCR l G mX3_gossipsAhead 2 0 0 [.ref 25, zi x, zi y] S J E (some (zi (zGA S t x y).toNat)) S J E := by
  refine nCR.of hl (by decide) rfl (Nat.le_of_ble_eq_true rfl) (ls := [some (.ref 25), some (zi x), some (zi y), none, none]) rfl (fun X C hF hX => ?_)
  subst hX
  have p1 : zGos S t x ≤ t := zcnt_le _ _
  have p2 : zGos S t y ≤ t := zcnt_le _ _
  have p3 := hdb x hx
  have p4 := hdb y hy
  refine sw_aload_0 C dX3_gossipsAhead_0 ?_
  refine sw_iload_1 C dX3_gossipsAhead_1 ?_
  refine sn_cV1r C vX3_spreadBy lX3_137 rfl (by decide) rfl rfl dX3_gossipsAhead_2 (Nat.le_of_ble_eq_true rfl) (c_X3_spreadBy hl ht ht4 hx) (by decide) (by decide) (by decide) ?_
  refine sw_istore_3 C rfl dX3_gossipsAhead_5 ?_
  refine sw_aload_0 C dX3_gossipsAhead_6 ?_
  refine sw_iload_2 C dX3_gossipsAhead_7 ?_
  refine sn_cV1r C vX3_spreadBy lX3_137 rfl (by decide) rfl rfl dX3_gossipsAhead_8 (Nat.le_of_ble_eq_true rfl) (c_X3_spreadBy hl ht ht4 hy) (by decide) (by decide) (by decide) ?_
  refine sw_istore_4 C rfl dX3_gossipsAhead_11 ?_
  refine sw_iload_3 C dX3_gossipsAhead_13 ?_
  refine sw_iload_4 C dX3_gossipsAhead_14 ?_
  refine sn_icmp_eq C 31 (by omega) (by omega) dX3_gossipsAhead_16 (by decide) (fun c16 => ?_) (fun c16 => ?_)
  · refine sw_aload_0 C dX3_gossipsAhead_31 ?_
    refine sw_getR C (o' := 31) fX3_22 rfl (by decide) rfl rfl (by decide) dX3_gossipsAhead_32 ?_
    refine sw_iload_1 C dX3_gossipsAhead_35 ?_
    refine sn_iald C rfl (by decide) (by omega) (by decide) dX3_gossipsAhead_36 ?_
    refine sw_aload_0 C dX3_gossipsAhead_37 ?_
    refine sw_getR C (o' := 31) fX3_22 rfl (by decide) rfl rfl (by decide) dX3_gossipsAhead_38 ?_
    refine sw_iload_2 C dX3_gossipsAhead_41 ?_
    refine sn_iald C rfl (by decide) (by omega) (by decide) dX3_gossipsAhead_42 ?_
    refine sn_icmp_eq C 67 (by omega) (by omega) dX3_gossipsAhead_43 (by decide) (fun c43 => ?_) (fun c43 => ?_)
    · refine sw_iload_1 C dX3_gossipsAhead_67 ?_
      refine sw_iload_2 C dX3_gossipsAhead_68 ?_
      refine sn_icmp_ge C 76 (by omega) (by omega) dX3_gossipsAhead_69 (by decide) (fun c69 => ?_) (fun c69 => ?_)
      · refine sn_iconst C 0 (by decide) dX3_gossipsAhead_76 ?_
        exact sn_zret C (v := false) rfl hF dX3_gossipsAhead_77 (by decide) (by decide) (by unfold zGA; split <;> (try split) <;> first | omega | (simp_all; done) | (simp_all; omega)) rfl rfl rfl
      · refine sn_iconst C 1 (by decide) dX3_gossipsAhead_72 ?_
        refine sw_goto C 77 dX3_gossipsAhead_73 (by decide) ?_
        exact sn_zret C (v := true) rfl hF dX3_gossipsAhead_77 (by decide) (by decide) (by unfold zGA; split <;> (try split) <;> first | omega | (simp_all; done) | (simp_all; omega)) rfl rfl rfl
    · refine sw_aload_0 C dX3_gossipsAhead_46 ?_
      refine sw_getR C (o' := 31) fX3_22 rfl (by decide) rfl rfl (by decide) dX3_gossipsAhead_47 ?_
      refine sw_iload_1 C dX3_gossipsAhead_50 ?_
      refine sn_iald C rfl (by decide) (by omega) (by decide) dX3_gossipsAhead_51 ?_
      refine sw_aload_0 C dX3_gossipsAhead_52 ?_
      refine sw_getR C (o' := 31) fX3_22 rfl (by decide) rfl rfl (by decide) dX3_gossipsAhead_53 ?_
      refine sw_iload_2 C dX3_gossipsAhead_56 ?_
      refine sn_iald C rfl (by decide) (by omega) (by decide) dX3_gossipsAhead_57 ?_
      refine sn_icmp_ge C 65 (by omega) (by omega) dX3_gossipsAhead_58 (by decide) (fun c58 => ?_) (fun c58 => ?_)
      · refine sn_iconst C 0 (by decide) dX3_gossipsAhead_65 ?_
        exact sn_zret C (v := false) rfl hF dX3_gossipsAhead_66 (by decide) (by decide) (by unfold zGA; split <;> (try split) <;> first | omega | (simp_all; done) | (simp_all; omega)) rfl rfl rfl
      · refine sn_iconst C 1 (by decide) dX3_gossipsAhead_61 ?_
        refine sw_goto C 66 dX3_gossipsAhead_62 (by decide) ?_
        exact sn_zret C (v := true) rfl hF dX3_gossipsAhead_66 (by decide) (by decide) (by unfold zGA; split <;> (try split) <;> first | omega | (simp_all; done) | (simp_all; omega)) rfl rfl rfl
  · refine sw_iload_3 C dX3_gossipsAhead_19 ?_
    refine sw_iload_4 C dX3_gossipsAhead_20 ?_
    refine sn_icmp_le C 29 (by omega) (by omega) dX3_gossipsAhead_22 (by decide) (fun c22 => ?_) (fun c22 => ?_)
    · refine sn_iconst C 0 (by decide) dX3_gossipsAhead_29 ?_
      exact sn_zret C (v := false) rfl hF dX3_gossipsAhead_30 (by decide) (by decide) (by unfold zGA; split <;> (try split) <;> first | omega | (simp_all; done) | (simp_all; omega)) rfl rfl rfl
    · refine sn_iconst C 1 (by decide) dX3_gossipsAhead_25 ?_
      refine sw_goto C 30 dX3_gossipsAhead_26 (by decide) ?_
      exact sn_zret C (v := true) rfl hF dX3_gossipsAhead_30 (by decide) (by decide) (by unfold zGA; split <;> (try split) <;> first | omega | (simp_all; done) | (simp_all; omega)) rfl rfl rfl
