def zmk (n : Nat) (p : Nat → Bool) : Nat := zIt (fun e m => m ||| (if p e = true then 1 * 2 ^ e else 0)) n 0
theorem zmk_lt {n : Nat} (h : n ≤ 12) (p : Nat → Bool) : zmk n p < 4096 := by
  unfold zmk
  refine zIt_inv (fun m => m < 4096) (by decide) (fun i q hi hq => ?_)
  split
  · exact zOr_lt hq (zBit_lt (by omega))
  · exact zOr_lt hq (by decide)
theorem zmk_lts {n i : Nat} (h : n ≤ 12) (hi : i ≤ n) (p : Nat → Bool) : zIt (fun e m => m ||| (if p e = true then 1 * 2 ^ e else 0)) i 0 < 4096 := zmk_lt (n := i) (by omega) p
def mHrB (S : zS) (r e : Nat) : Bool := !(S 13 (41 + 5 * r + 3) ||| S 13 (41 + 5 * r + 4)).testBit e && !(S 13 (29 + e) &&& S 13 (41 + 5 * r + 3) == 0)
def mHears (S : zS) (n r : Nat) : Nat := if S 13 (41 + 5 * r + 1) = 1 then 0 else zmk n (mHrB S r)
def mBlB (S : zS) (r e : Nat) : Bool := decide (S 13 (17 + e) < S 13 (41 + 5 * r + 0) + zpop (S 13 (29 + e) &&& S 13 (41 + 5 * r + 3)))
def mBel (S : zS) (n r : Nat) : Nat := zmk n (fun e => (mHears S n r).testBit e && mBlB S r e)
theorem mHears_lt {S : zS} {n r : Nat} (h : n ≤ 12) : mHears S n r < 4096 := by
  unfold mHears; split
  · decide
  · exact zmk_lt h _
def mHrd (S : zS) (n r h : Nat) : zS := zIt (fun e q => if h.testBit e = true then zU q 13 (61 + 12 * r + e) (S 13 2) else q) n S
theorem mHrd_lo {S : zS} {n r h a b : Nat} (hb : a ≠ 13 ∨ b < 61) : mHrd S n r h a b = S a b :=
  zIt_inv (fun q : zS => q a b = S a b) rfl (fun i q _ hq => by
    split
    · unfold zU; rw [if_neg (by omega)]; exact hq
    · exact hq)
theorem mHrd_los {S : zS} {i r h a b : Nat} (hb : a ≠ 13 ∨ b < 61) : zIt (fun e q => if h.testBit e = true then zU q 13 (61 + 12 * r + e) (S 13 2) else q) i S a b = S a b := mHrd_lo (n := i) hb
/-- one round of a rumour in the model -/
def mSpr (S : zS) (n r : Nat) : zS :=
  zU (zU (zU (zU (mHrd S n r (mHears S n r)) 13 3 (S 13 3 + zpop (mHears S n r))) 13 (41 + 5 * r + 3) (S 13 (41 + 5 * r + 3) ||| mBel S n r)) 13 (41 + 5 * r + 4) (S 13 (41 + 5 * r + 4) ||| mHears S n r &&& (mBel S n r ^^^ 4294967295))) 13 (41 + 5 * r + 0) (if mBel S n r = 0 then S 13 (41 + 5 * r + 0) - 1 else S 13 (41 + 5 * r + 0))

set_option maxRecDepth 100000 in
set_option maxHeartbeats 4000000 in
theorem c_X6_aware {l : Launch} (hl : l.stackTraces = false) {G : zG} {S : zS} {J : Int64} {E : UInt64} {r : Nat} (hr : r < 4) : nCR l G mX6_aware 1 0 0 [.ref 12, zi r] S J E (some (zi (S 13 (41 + 5 * r + 3) ||| S 13 (41 + 5 * r + 4)))) S J E := by
  refine nCR.of hl (by decide) rfl (Nat.le_of_ble_eq_true rfl) (ls := [some (.ref 12), some (zi r)]) rfl (fun X C hF hX => ?_)
  subst hX
  refine sw_aload_0 C dX6_aware_0 ?_
  refine sw_getR C (o' := 13) fX6_16 rfl (by decide) rfl rfl (by decide) dX6_aware_1 ?_
  refine sw_iload_1 C dX6_aware_4 ?_
  refine sn_iconst C 3 (by decide) dX6_aware_5 ?_
  refine sn_cS2r C vX6_of lX6_61 dX6_aware_6 (Nat.le_of_ble_eq_true rfl) (c_X6_of hl) (by decide) (by decide) (by decide) ?_
  refine sn_iald C rfl (by decide) (by omega) (by decide) dX6_aware_9 ?_
  refine sw_aload_0 C dX6_aware_10 ?_
  refine sw_getR C (o' := 13) fX6_16 rfl (by decide) rfl rfl (by decide) dX6_aware_11 ?_
  refine sw_iload_1 C dX6_aware_14 ?_
  refine sn_iconst C 4 (by decide) dX6_aware_15 ?_
  refine sn_cS2r C vX6_of lX6_61 dX6_aware_16 (Nat.le_of_ble_eq_true rfl) (c_X6_of hl) (by decide) (by decide) (by decide) ?_
  refine sn_iald C rfl (by decide) (by omega) (by decide) dX6_aware_19 ?_
  refine sn_ior C dX6_aware_20 ?_
  exact sn_iret C rfl hF dX6_aware_21 (by decide) (by decide) (by first | rfl | (simp [*]; done)) rfl rfl rfl

set_option maxRecDepth 100000 in
set_option maxHeartbeats 4000000 in
theorem c_X6_hears {l : Launch} (hl : l.stackTraces = false) {G : zG} {S : zS} {J : Int64} {E : UInt64} {n t : Nat} (hm : mNow S n t) {r : Nat} (hr : r < 4) : nCR l G mX6_hears 2 0 0 [.ref 12, zi r] S J E (some (zi (mHears S n r))) S J E := by
  refine nCR.of hl (by decide) rfl (Nat.le_of_ble_eq_true rfl) (ls := [some (.ref 12), some (zi r), none, none]) rfl (fun X C hF hX => ?_)
  subst hX
  obtain ⟨hn, hz, ht, ht4, hls, hrs⟩ := id hm
  obtain ⟨hr0, hr1, hr3, hr4⟩ := hrs r hr
  refine sn_iconst C 0 (by decide) dX6_hears_0 ?_
  refine sw_istore_2 C rfl dX6_hears_1 ?_
  refine sn_iconst C 0 (by decide) dX6_hears_2 ?_
  refine sw_istore_3 C rfl dX6_hears_3 ?_
  have L4 : ∀ (kM i : Nat) (m : Nat), i ≤ n → (m = zIt (fun e m => m ||| (if mHrB S r e = true then 1 * 2 ^ e else 0)) i 0) → n - i < kM → SN G X 0 0 4 [some (.ref 12), some (zi r), some (zi m), some (zi i)] [] S J E := by
    intro kM
    induction kM with
    | zero => intro i m _ _ hkM; exact absurd hkM (by omega)
    | succ kM ih4 =>
      intro i m hi hq hkM
      refine sw_iload_3 C dX6_hears_4 ?_
      refine sw_aload_0 C dX6_hears_5 ?_
      refine sw_getR C (o' := 13) fX6_16 rfl (by decide) rfl rfl (by decide) dX6_hears_6 ?_
      refine sn_iconst C 0 (by decide) dX6_hears_9 ?_
      refine sn_ialde C (n) hn rfl (by decide) (by omega) (by decide) dX6_hears_10 ?_
      refine sn_icmp_ge C 65 (by omega) (by omega) dX6_hears_11 (by decide) (fun c11 => ?_) (fun c11 => ?_)
      · refine sw_aload_0 C dX6_hears_65 ?_
        refine sw_getR C (o' := 13) fX6_16 rfl (by decide) rfl rfl (by decide) dX6_hears_66 ?_
        refine sw_iload_1 C dX6_hears_69 ?_
        refine sn_iconst C 1 (by decide) dX6_hears_70 ?_
        refine sn_cS2r C vX6_of lX6_61 dX6_hears_71 (Nat.le_of_ble_eq_true rfl) (c_X6_of hl) (by decide) (by decide) (by decide) ?_
        refine sn_iald C rfl (by decide) (by omega) (by decide) dX6_hears_74 ?_
        refine sn_iconst C 1 (by decide) dX6_hears_75 ?_
        refine sn_icmp_ne C 83 (by omega) (by decide) dX6_hears_76 (by decide) (fun c76 => ?_) (fun c76 => ?_)
        · refine sw_iload_2 C dX6_hears_83 ?_
          exact sn_iret C rfl hF dX6_hears_84 (by decide) (by decide) (by unfold mHears zmk; first | (rw [if_pos c76]; done) | (rw [if_neg c76, hq, show i = n from by omega])) rfl rfl rfl
        · refine sn_iconst C 0 (by decide) dX6_hears_79 ?_
          refine sw_goto C 84 dX6_hears_80 (by decide) ?_
          exact sn_iret C rfl hF dX6_hears_84 (by decide) (by decide) (by unfold mHears zmk; first | (rw [if_pos c76]; done) | (rw [if_neg c76, hq, show i = n from by omega])) rfl rfl rfl
      · refine sw_iload_2 C dX6_hears_14 ?_
        refine sw_aload_0 C dX6_hears_15 ?_
        refine sw_iload_1 C dX6_hears_16 ?_
        refine sn_cV1r C vX6_aware lX6_127 rfl (by decide) rfl rfl dX6_hears_17 (Nat.le_of_ble_eq_true rfl) (c_X6_aware hl hr) (by decide) (by decide) (by decide) ?_
        refine sw_iload_3 C dX6_hears_20 ?_
        refine sn_cS2r C vX6_has lX6_91 dX6_hears_21 (Nat.le_of_ble_eq_true rfl) (c_X6_has hl (by have := zOr_lt hr3 hr4; omega) (by omega)) (by decide) (by decide) (by decide) ?_
        refine sn_if_neB C 56 dX6_hears_24 (by decide) (fun c24 => ?_) (fun c24 => ?_)
        · refine sn_iconst C 0 (by decide) dX6_hears_56 ?_
          refine sn_ior C dX6_hears_57 ?_
          refine sw_istore_2 C rfl dX6_hears_58 ?_
          refine sn_iinc_3 C rfl dX6_hears_59 ?_
          refine sw_goto C 4 dX6_hears_62 (by decide) ?_
          exact ih4 (i + 1) _ (by omega) (by rw [zIt, ← hq]; first | simp [mHrB, c24, c47] | simp [mHrB, c24]) (by omega)
        · refine sw_aload_0 C dX6_hears_27 ?_
          refine sw_getR C (o' := 13) fX6_16 rfl (by decide) rfl rfl (by decide) dX6_hears_28 ?_
          refine sn_bipush C 29 (by decide) dX6_hears_31 ?_
          refine sw_iload_3 C dX6_hears_33 ?_
          refine sn_iadd C dX6_hears_34 ?_
          refine sn_iald C rfl (by decide) (by omega) (by decide) dX6_hears_35 ?_
          refine sw_aload_0 C dX6_hears_36 ?_
          refine sw_getR C (o' := 13) fX6_16 rfl (by decide) rfl rfl (by decide) dX6_hears_37 ?_
          refine sw_iload_1 C dX6_hears_40 ?_
          refine sn_iconst C 3 (by decide) dX6_hears_41 ?_
          refine sn_cS2r C vX6_of lX6_61 dX6_hears_42 (Nat.le_of_ble_eq_true rfl) (c_X6_of hl) (by decide) (by decide) (by decide) ?_
          refine sn_iald C rfl (by decide) (by omega) (by decide) dX6_hears_45 ?_
          refine sn_iand C dX6_hears_46 ?_
          refine sn_if_eq C 56 (by have := zAnd_lt (y := S 13 (41 + 5 * r + 3)) (hls i (by omega)).2.2; omega) dX6_hears_47 (by decide) (fun c47 => ?_) (fun c47 => ?_)
          · refine sn_iconst C 0 (by decide) dX6_hears_56 ?_
            refine sn_ior C dX6_hears_57 ?_
            refine sw_istore_2 C rfl dX6_hears_58 ?_
            refine sn_iinc_3 C rfl dX6_hears_59 ?_
            refine sw_goto C 4 dX6_hears_62 (by decide) ?_
            exact ih4 (i + 1) _ (by omega) (by rw [zIt, ← hq]; first | simp [mHrB, c24, c47] | simp [mHrB, c24]) (by omega)
          · refine sn_iconst C 1 (by decide) dX6_hears_50 ?_
            refine sw_iload_3 C dX6_hears_51 ?_
            refine sn_ishl C (by omega) dX6_hears_52 ?_
            refine sw_goto C 57 dX6_hears_53 (by decide) ?_
            refine sn_ior C dX6_hears_57 ?_
            refine sw_istore_2 C rfl dX6_hears_58 ?_
            refine sn_iinc_3 C rfl dX6_hears_59 ?_
            refine sw_goto C 4 dX6_hears_62 (by decide) ?_
            exact ih4 (i + 1) _ (by omega) (by rw [zIt, ← hq]; first | simp [mHrB, c24, c47] | simp [mHrB, c24]) (by omega)
  exact L4 _ 0 0 (by omega) rfl (Nat.lt_succ_self _)

set_option maxRecDepth 100000 in
set_option maxHeartbeats 4000000 in
theorem c_X6_believes {l : Launch} (hl : l.stackTraces = false) {G : zG} {S : zS} {J : Int64} {E : UInt64} {n t : Nat} (hm : mNow S n t) {r : Nat} (hr : r < 4) : nCR l G mX6_believes 3 0 0 [.ref 12, zi r] S J E (some (zi (mBel S n r))) S J E := by
  refine nCR.of hl (by decide) rfl (Nat.le_of_ble_eq_true rfl) (ls := [some (.ref 12), some (zi r), none, none, none]) rfl (fun X C hF hX => ?_)
  subst hX
  obtain ⟨hn, hz, ht, ht4, hls, hrs⟩ := id hm
  obtain ⟨hr0, hr1, hr3, hr4⟩ := hrs r hr
  have hh := mHears_lt (S := S) (r := r) hz
  refine sn_iconst C 0 (by decide) dX6_believes_0 ?_
  refine sw_istore_2 C rfl dX6_believes_1 ?_
  refine sw_aload_0 C dX6_believes_2 ?_
  refine sw_iload_1 C dX6_believes_3 ?_
  refine sn_cV1r C vX6_hears lX6_130 rfl (by decide) rfl rfl dX6_believes_4 (Nat.le_of_ble_eq_true rfl) (c_X6_hears hl hm hr) (by decide) (by decide) (by decide) ?_
  refine sw_istore_3 C rfl dX6_believes_7 ?_
  refine sn_iconst C 0 (by decide) dX6_believes_8 ?_
  refine sw_istore_4 C rfl dX6_believes_9 ?_
  have L11 : ∀ (kM i : Nat) (m : Nat), i ≤ n → (m = zIt (fun e m => m ||| (if ((mHears S n r).testBit e && mBlB S r e) = true then 1 * 2 ^ e else 0)) i 0) → n - i < kM → SN G X 0 0 11 [some (.ref 12), some (zi r), some (zi m), some (zi (mHears S n r)), some (zi i)] [] S J E := by
    intro kM
    induction kM with
    | zero => intro i m _ _ hkM; exact absurd hkM (by omega)
    | succ kM ih11 =>
      intro i m hi hq hkM
      refine sw_iload_4 C dX6_believes_11 ?_
      refine sw_aload_0 C dX6_believes_13 ?_
      refine sw_getR C (o' := 13) fX6_16 rfl (by decide) rfl rfl (by decide) dX6_believes_14 ?_
      refine sn_iconst C 0 (by decide) dX6_believes_17 ?_
      refine sn_ialde C (n) hn rfl (by decide) (by omega) (by decide) dX6_believes_18 ?_
      refine sn_icmp_ge C 96 (by omega) (by omega) dX6_believes_19 (by decide) (fun c19 => ?_) (fun c19 => ?_)
      · refine sw_iload_2 C dX6_believes_96 ?_
        exact sn_iret C rfl hF dX6_believes_97 (by decide) (by decide) (by rw [hq, show i = n from by omega]; rfl) rfl rfl rfl
      · refine sw_iload_2 C dX6_believes_22 ?_
        refine sw_iload_3 C dX6_believes_23 ?_
        refine sw_iload_4 C dX6_believes_24 ?_
        refine sn_cS2r C vX6_has lX6_91 dX6_believes_26 (Nat.le_of_ble_eq_true rfl) (c_X6_has hl (by omega) (by omega)) (by decide) (by decide) (by decide) ?_
        refine sn_if_eqB C 87 dX6_believes_29 (by decide) (fun c29 => ?_) (fun c29 => ?_)
        · refine sn_iconst C 0 (by decide) dX6_believes_87 ?_
          refine sn_ior C dX6_believes_88 ?_
          refine sw_istore_2 C rfl dX6_believes_89 ?_
          refine sn_iinc_4 C rfl dX6_believes_90 ?_
          refine sw_goto C 11 dX6_believes_93 (by decide) ?_
          exact ih11 (i + 1) _ (by omega) (by rw [zIt, ← hq]; first | (simp [c29, e1]; done) | (simp [c29]; done)) (by omega)
        · refine sw_aload_0 C dX6_believes_32 ?_
          refine sw_getR C (o' := 13) fX6_16 rfl (by decide) rfl rfl (by decide) dX6_believes_33 ?_
          refine sw_iload_1 C dX6_believes_36 ?_
          refine sn_iconst C 0 (by decide) dX6_believes_37 ?_
          refine sn_cS2r C vX6_of lX6_61 dX6_believes_38 (Nat.le_of_ble_eq_true rfl) (c_X6_of hl) (by decide) (by decide) (by decide) ?_
          refine sn_iald C rfl (by decide) (by omega) (by decide) dX6_believes_41 ?_
          refine sw_aload_0 C dX6_believes_42 ?_
          refine sw_getR C (o' := 13) fX6_16 rfl (by decide) rfl rfl (by decide) dX6_believes_43 ?_
          refine sn_bipush C 29 (by decide) dX6_believes_46 ?_
          refine sw_iload_4 C dX6_believes_48 ?_
          refine sn_iadd C dX6_believes_50 ?_
          refine sn_iald C rfl (by decide) (by omega) (by decide) dX6_believes_51 ?_
          refine sw_aload_0 C dX6_believes_52 ?_
          refine sw_getR C (o' := 13) fX6_16 rfl (by decide) rfl rfl (by decide) dX6_believes_53 ?_
          refine sw_iload_1 C dX6_believes_56 ?_
          refine sn_iconst C 3 (by decide) dX6_believes_57 ?_
          refine sn_cS2r C vX6_of lX6_61 dX6_believes_58 (Nat.le_of_ble_eq_true rfl) (c_X6_of hl) (by decide) (by decide) (by decide) ?_
          refine sn_iald C rfl (by decide) (by omega) (by decide) dX6_believes_61 ?_
          refine sn_iand C dX6_believes_62 ?_
          refine sn_cS1r C vX6_bits lX6_85 dX6_believes_63 (Nat.le_of_ble_eq_true rfl) (c_X6_bits hl (zAnd_lt (hls i (by omega)).2.2)) (by decide) (by decide) (by decide) ?_
          refine sn_iadd C dX6_believes_66 ?_
          refine sw_aload_0 C dX6_believes_67 ?_
          refine sw_getR C (o' := 13) fX6_16 rfl (by decide) rfl rfl (by decide) dX6_believes_68 ?_
          refine sn_bipush C 17 (by decide) dX6_believes_71 ?_
          refine sw_iload_4 C dX6_believes_73 ?_
          refine sn_iadd C dX6_believes_75 ?_
          refine sn_iald C rfl (by decide) (by omega) (by decide) dX6_believes_76 ?_
          refine sn_icmp_le C 87 (by have := zpop_le (S 13 (29 + i) &&& S 13 (41 + 5 * r + 3)); omega) (by have := (hls i (by omega)).2.1; omega) dX6_believes_77 (by decide) (fun c77 => ?_) (fun c77 => ?_)
          · have e1 : mBlB S r i = false := by unfold mBlB; exact decide_eq_false (by omega)
            refine sn_iconst C 0 (by decide) dX6_believes_87 ?_
            refine sn_ior C dX6_believes_88 ?_
            refine sw_istore_2 C rfl dX6_believes_89 ?_
            refine sn_iinc_4 C rfl dX6_believes_90 ?_
            refine sw_goto C 11 dX6_believes_93 (by decide) ?_
            exact ih11 (i + 1) _ (by omega) (by rw [zIt, ← hq]; first | (simp [c29, e1]; done) | (simp [c29]; done)) (by omega)
          · have e1 : mBlB S r i = true := by unfold mBlB; exact decide_eq_true c77
            refine sn_iconst C 1 (by decide) dX6_believes_80 ?_
            refine sw_iload_4 C dX6_believes_81 ?_
            refine sn_ishl C (by omega) dX6_believes_83 ?_
            refine sw_goto C 88 dX6_believes_84 (by decide) ?_
            refine sn_ior C dX6_believes_88 ?_
            refine sw_istore_2 C rfl dX6_believes_89 ?_
            refine sn_iinc_4 C rfl dX6_believes_90 ?_
            refine sw_goto C 11 dX6_believes_93 (by decide) ?_
            exact ih11 (i + 1) _ (by omega) (by rw [zIt, ← hq]; first | (simp [c29, e1]; done) | (simp [c29]; done)) (by omega)
  exact L11 _ 0 0 (by omega) rfl (Nat.lt_succ_self _)

set_option maxRecDepth 100000 in
set_option maxHeartbeats 4000000 in
theorem c_X6_spreads {l : Launch} (hl : l.stackTraces = false) {G : zG} {S : zS} {J : Int64} {E : UInt64} {n t : Nat} (hm : mNow S n t) {r : Nat} (hr : r < 4) : nCR l G mX6_spreads 4 0 0 [.ref 12, zi r] S J E (some (zi (zpop (mBel S n r)))) (mSpr S n r) J E := by
  refine nCR.of hl (by decide) rfl (Nat.le_of_ble_eq_true rfl) (ls := [some (.ref 12), some (zi r), none, none, none]) rfl (fun X C hF hX => ?_)
  subst hX
  obtain ⟨hn, hz, ht, ht4, hls, hrs⟩ := id hm
  obtain ⟨hr0, hr1, hr3, hr4⟩ := hrs r hr
  have hh := mHears_lt (S := S) (r := r) hz
  have hb : mBel S n r < 4096 := zmk_lt hz _
  refine sw_aload_0 C dX6_spreads_0 ?_
  refine sw_iload_1 C dX6_spreads_1 ?_
  refine sn_cV1r C vX6_hears lX6_130 rfl (by decide) rfl rfl dX6_spreads_2 (Nat.le_of_ble_eq_true rfl) (c_X6_hears hl hm hr) (by decide) (by decide) (by decide) ?_
  refine sw_istore_2 C rfl dX6_spreads_5 ?_
  refine sw_aload_0 C dX6_spreads_6 ?_
  refine sw_iload_1 C dX6_spreads_7 ?_
  refine sn_cV1r C vX6_believes lX6_133 rfl (by decide) rfl rfl dX6_spreads_8 (Nat.le_of_ble_eq_true rfl) (c_X6_believes hl hm hr) (by decide) (by decide) (by decide) ?_
  refine sw_istore_3 C rfl dX6_spreads_11 ?_
  refine sn_iconst C 0 (by decide) dX6_spreads_12 ?_
  refine sw_istore_4 C rfl dX6_spreads_13 ?_
  have L15 : ∀ (kM i : Nat) (q : zS), i ≤ n → (q = zIt (fun e q => if (mHears S n r).testBit e = true then zU q 13 (61 + 12 * r + e) (S 13 2) else q) i S) → n - i < kM → SN G X 0 0 15 [some (.ref 12), some (zi r), some (zi (mHears S n r)), some (zi (mBel S n r)), some (zi i)] [] q J E := by
    intro kM
    induction kM with
    | zero => intro i q _ _ hkM; exact absurd hkM (by omega)
    | succ kM ih15 =>
      intro i q hi hq hkM
      have hfr : ∀ a b, a ≠ 13 ∨ b < 61 → q a b = S a b := fun a b h => by rw [hq]; exact mHrd_los h
      refine sw_iload_4 C dX6_spreads_15 ?_
      refine sw_aload_0 C dX6_spreads_17 ?_
      refine sw_getR C (o' := 13) fX6_16 rfl (by decide) rfl rfl (by decide) dX6_spreads_18 ?_
      refine sn_iconst C 0 (by decide) dX6_spreads_21 ?_
      refine sn_ialde C (n) ((hfr 13 0 (Or.inr (by decide))).trans hn) rfl (by decide) (by omega) (by decide) dX6_spreads_22 ?_
      refine sn_icmp_ge C 62 (by omega) (by omega) dX6_spreads_23 (by decide) (fun c23 => ?_) (fun c23 => ?_)
      · have hqe : q = mHrd S n r (mHears S n r) := by rw [hq, show i = n from by omega]; rfl
        refine sw_aload_0 C dX6_spreads_62 ?_
        refine sw_getR C (o' := 13) fX6_16 rfl (by decide) rfl rfl (by decide) dX6_spreads_63 ?_
        refine sn_iconst C 3 (by decide) dX6_spreads_66 ?_
        refine sw_dup2 C rfl rfl dX6_spreads_67 ?_
        refine sn_ialde C (S 13 3) (hfr 13 3 (Or.inr (by decide))) rfl (by decide) (by omega) (by decide) dX6_spreads_68 ?_
        refine sw_iload_2 C dX6_spreads_69 ?_
        refine sn_cS1r C vX6_bits lX6_85 dX6_spreads_70 (Nat.le_of_ble_eq_true rfl) (c_X6_bits hl hh) (by decide) (by decide) (by decide) ?_
        refine sn_iadd C dX6_spreads_73 ?_
        refine sn_iast C rfl (by decide) (by omega) (by decide) dX6_spreads_74 ?_
        refine sw_aload_0 C dX6_spreads_75 ?_
        refine sw_getR C (o' := 13) fX6_16 rfl (by decide) rfl rfl (by decide) dX6_spreads_76 ?_
        refine sw_iload_1 C dX6_spreads_79 ?_
        refine sn_iconst C 3 (by decide) dX6_spreads_80 ?_
        refine sn_cS2r C vX6_of lX6_61 dX6_spreads_81 (Nat.le_of_ble_eq_true rfl) (c_X6_of hl) (by decide) (by decide) (by decide) ?_
        refine sw_dup2 C rfl rfl dX6_spreads_84 ?_
        refine sn_ialde C (S 13 (41 + 5 * r + 3)) ((zU_j (by omega)).trans (hfr 13 _ (Or.inr (by omega)))) rfl (by decide) (by omega) (by decide) dX6_spreads_85 ?_
        refine sw_iload_3 C dX6_spreads_86 ?_
        refine sn_ior C dX6_spreads_87 ?_
        refine sn_iast C rfl (by decide) (by omega) (by decide) dX6_spreads_88 ?_
        refine sw_aload_0 C dX6_spreads_89 ?_
        refine sw_getR C (o' := 13) fX6_16 rfl (by decide) rfl rfl (by decide) dX6_spreads_90 ?_
        refine sw_iload_1 C dX6_spreads_93 ?_
        refine sn_iconst C 4 (by decide) dX6_spreads_94 ?_
        refine sn_cS2r C vX6_of lX6_61 dX6_spreads_95 (Nat.le_of_ble_eq_true rfl) (c_X6_of hl) (by decide) (by decide) (by decide) ?_
        refine sw_dup2 C rfl rfl dX6_spreads_98 ?_
        refine sn_ialde C (S 13 (41 + 5 * r + 4)) ((zU_j (by omega)).trans ((zU_j (by omega)).trans (hfr 13 _ (Or.inr (by omega))))) rfl (by decide) (by omega) (by decide) dX6_spreads_99 ?_
        refine sw_iload_2 C dX6_spreads_100 ?_
        refine sw_iload_3 C dX6_spreads_101 ?_
        refine sn_iconst C 4294967295 (by decide) dX6_spreads_102 ?_
        refine sn_ixor C dX6_spreads_103 ?_
        refine sn_iand C dX6_spreads_104 ?_
        refine sn_ior C dX6_spreads_105 ?_
        refine sn_iast C rfl (by decide) (by omega) (by decide) dX6_spreads_106 ?_
        refine sw_aload_0 C dX6_spreads_107 ?_
        refine sw_getR C (o' := 13) fX6_16 rfl (by decide) rfl rfl (by decide) dX6_spreads_108 ?_
        refine sw_iload_1 C dX6_spreads_111 ?_
        refine sn_iconst C 0 (by decide) dX6_spreads_112 ?_
        refine sn_cS2r C vX6_of lX6_61 dX6_spreads_113 (Nat.le_of_ble_eq_true rfl) (c_X6_of hl) (by decide) (by decide) (by decide) ?_
        refine sw_dup2 C rfl rfl dX6_spreads_116 ?_
        refine sn_ialde C (S 13 (41 + 5 * r + 0)) ((zU_j (by omega)).trans ((zU_j (by omega)).trans ((zU_j (by omega)).trans (hfr 13 _ (Or.inr (by omega)))))) rfl (by decide) (by omega) (by decide) dX6_spreads_117 ?_
        refine sw_iload_3 C dX6_spreads_118 ?_
        refine sn_if_ne C 139 (by omega) dX6_spreads_119 (by decide) (fun c119 => ?_) (fun c119 => ?_)
        · refine sn_iconst C 0 (by decide) dX6_spreads_139 ?_
          refine sn_isub C (by omega) dX6_spreads_140 ?_
          refine sn_iast C rfl (by decide) (by omega) (by decide) dX6_spreads_141 ?_
          refine sw_iload_3 C dX6_spreads_142 ?_
          refine sn_cS1r C vX6_bits lX6_85 dX6_spreads_143 (Nat.le_of_ble_eq_true rfl) (c_X6_bits hl hb) (by decide) (by decide) (by decide) ?_
          exact sn_iret C rfl hF dX6_spreads_146 (by decide) (by decide) (by rfl) (by unfold mSpr; rw [← hqe]; exact congrArg (zU _ 13 (41 + 5 * r + 0)) (by first | (rw [if_pos c119]; done) | (rw [if_pos c119]; omega) | (rw [if_neg c119]; omega))) rfl rfl
        · refine sw_aload_0 C dX6_spreads_122 ?_
          refine sw_getR C (o' := 13) fX6_16 rfl (by decide) rfl rfl (by decide) dX6_spreads_123 ?_
          refine sw_iload_1 C dX6_spreads_126 ?_
          refine sn_iconst C 0 (by decide) dX6_spreads_127 ?_
          refine sn_cS2r C vX6_of lX6_61 dX6_spreads_128 (Nat.le_of_ble_eq_true rfl) (c_X6_of hl) (by decide) (by decide) (by decide) ?_
          refine sn_ialde C (S 13 (41 + 5 * r + 0)) ((zU_j (by omega)).trans ((zU_j (by omega)).trans ((zU_j (by omega)).trans (hfr 13 _ (Or.inr (by omega)))))) rfl (by decide) (by omega) (by decide) dX6_spreads_131 ?_
          refine sn_if_le C 139 (by omega) dX6_spreads_132 (by decide) (fun c132 => ?_) (fun c132 => ?_)
          · refine sn_iconst C 0 (by decide) dX6_spreads_139 ?_
            refine sn_isub C (by omega) dX6_spreads_140 ?_
            refine sn_iast C rfl (by decide) (by omega) (by decide) dX6_spreads_141 ?_
            refine sw_iload_3 C dX6_spreads_142 ?_
            refine sn_cS1r C vX6_bits lX6_85 dX6_spreads_143 (Nat.le_of_ble_eq_true rfl) (c_X6_bits hl hb) (by decide) (by decide) (by decide) ?_
            exact sn_iret C rfl hF dX6_spreads_146 (by decide) (by decide) (by rfl) (by unfold mSpr; rw [← hqe]; exact congrArg (zU _ 13 (41 + 5 * r + 0)) (by first | (rw [if_pos c119]; done) | (rw [if_pos c119]; omega) | (rw [if_neg c119]; omega))) rfl rfl
          · refine sn_iconst C 1 (by decide) dX6_spreads_135 ?_
            refine sw_goto C 140 dX6_spreads_136 (by decide) ?_
            refine sn_isub C (by omega) dX6_spreads_140 ?_
            refine sn_iast C rfl (by decide) (by omega) (by decide) dX6_spreads_141 ?_
            refine sw_iload_3 C dX6_spreads_142 ?_
            refine sn_cS1r C vX6_bits lX6_85 dX6_spreads_143 (Nat.le_of_ble_eq_true rfl) (c_X6_bits hl hb) (by decide) (by decide) (by decide) ?_
            exact sn_iret C rfl hF dX6_spreads_146 (by decide) (by decide) (by rfl) (by unfold mSpr; rw [← hqe]; exact congrArg (zU _ 13 (41 + 5 * r + 0)) (by first | (rw [if_pos c119]; done) | (rw [if_pos c119]; omega) | (rw [if_neg c119]; omega))) rfl rfl
      · refine sw_iload_2 C dX6_spreads_26 ?_
        refine sw_iload_4 C dX6_spreads_27 ?_
        refine sn_cS2r C vX6_has lX6_91 dX6_spreads_29 (Nat.le_of_ble_eq_true rfl) (c_X6_has hl (by omega) (by omega)) (by decide) (by decide) (by decide) ?_
        refine sn_if_eqB C 56 dX6_spreads_32 (by decide) (fun c32 => ?_) (fun c32 => ?_)
        · refine sn_iinc_4 C rfl dX6_spreads_56 ?_
          refine sw_goto C 15 dX6_spreads_59 (by decide) ?_
          exact ih15 (i + 1) _ (by omega) (by rw [zIt, ← hq]; first | (rw [if_pos c32]; done) | (rw [c32]; rfl)) (by omega)
        · refine sw_aload_0 C dX6_spreads_35 ?_
          refine sw_getR C (o' := 13) fX6_16 rfl (by decide) rfl rfl (by decide) dX6_spreads_36 ?_
          refine sn_bipush C 61 (by decide) dX6_spreads_39 ?_
          refine sn_bipush C 12 (by decide) dX6_spreads_41 ?_
          refine sw_iload_1 C dX6_spreads_43 ?_
          refine sn_imul C dX6_spreads_44 ?_
          refine sn_iadd C dX6_spreads_45 ?_
          refine sw_iload_4 C dX6_spreads_46 ?_
          refine sn_iadd C dX6_spreads_48 ?_
          refine sw_aload_0 C dX6_spreads_49 ?_
          refine sw_getR C (o' := 13) fX6_16 rfl (by decide) rfl rfl (by decide) dX6_spreads_50 ?_
          refine sn_iconst C 2 (by decide) dX6_spreads_53 ?_
          refine sn_ialde C (S 13 2) (hfr 13 2 (Or.inr (by decide))) rfl (by decide) (by omega) (by decide) dX6_spreads_54 ?_
          refine sn_iast C rfl (by decide) (by omega) (by decide) dX6_spreads_55 ?_
          refine sn_iinc_4 C rfl dX6_spreads_56 ?_
          refine sw_goto C 15 dX6_spreads_59 (by decide) ?_
          exact ih15 (i + 1) _ (by omega) (by rw [zIt, ← hq]; first | (rw [if_pos c32]; done) | (rw [c32]; rfl)) (by omega)
  exact L15 _ 0 S (by omega) rfl (Nat.lt_succ_self _)

theorem mSpr_o {S : zS} {n r a b : Nat} (ha : a ≠ 13) : mSpr S n r a b = S a b := by
  unfold mSpr
  rw [zU_o ha, zU_o ha, zU_o ha, zU_o ha]
  exact mHrd_lo (Or.inl ha)
theorem mSpr_lo {S : zS} {n r b : Nat} (h3 : b ≠ 3) (hb : b < 41 + 5 * r ∨ 41 + 5 * r + 5 ≤ b) (h61 : b < 61) : mSpr S n r 13 b = S 13 b := by
  unfold mSpr
  rw [zU_j (by omega), zU_j (by omega), zU_j (by omega), zU_j (by omega)]
  exact mHrd_lo (Or.inr h61)
theorem mSpr_0 {S : zS} {n r : Nat} : mSpr S n r 13 (41 + 5 * r + 0) = if mBel S n r = 0 then S 13 (41 + 5 * r + 0) - 1 else S 13 (41 + 5 * r + 0) := by unfold mSpr; rw [zU_s]
theorem mSpr_1 {S : zS} {n r : Nat} (hr : r < 4) : mSpr S n r 13 (41 + 5 * r + 1) = S 13 (41 + 5 * r + 1) := by
  unfold mSpr
  rw [zU_j (by omega), zU_j (by omega), zU_j (by omega), zU_j (by omega)]; exact mHrd_lo (Or.inr (by omega))
theorem mSpr_2 {S : zS} {n r : Nat} (hr : r < 4) : mSpr S n r 13 (41 + 5 * r + 2) = S 13 (41 + 5 * r + 2) := by
  unfold mSpr
  rw [zU_j (by omega), zU_j (by omega), zU_j (by omega), zU_j (by omega)]; exact mHrd_lo (Or.inr (by omega))
theorem mSpr_3 {S : zS} {n r : Nat} : mSpr S n r 13 (41 + 5 * r + 3) = S 13 (41 + 5 * r + 3) ||| mBel S n r := by unfold mSpr; rw [zU_j (by omega), zU_j (by omega), zU_s]
theorem mSpr_4 {S : zS} {n r : Nat} : mSpr S n r 13 (41 + 5 * r + 4) = S 13 (41 + 5 * r + 4) ||| mHears S n r &&& (mBel S n r ^^^ 4294967295) := by unfold mSpr; rw [zU_j (by omega), zU_s]
theorem mSpr_now {S : zS} {n t r : Nat} (h : mNow S n t) (hr : r < 4) : mNow (mSpr S n r) n t := by
  obtain ⟨hn, hz, ht, ht4, hls, hrs⟩ := h
  have hh := mHears_lt (S := S) (r := r) hz
  have hb : mBel S n r < 4096 := zmk_lt hz _
  refine ⟨(mSpr_lo (by decide) (Or.inl (by omega)) (by decide)).trans hn, hz, (mSpr_lo (by decide) (Or.inl (by omega)) (by decide)).trans ht, ht4, fun e he => ?_, fun q hq => ?_⟩
  · rw [mSpr_lo (by omega) (Or.inl (by omega)) (by omega), mSpr_lo (by omega) (Or.inl (by omega)) (by omega), mSpr_lo (by omega) (Or.inl (by omega)) (by omega)]
    exact hls e he
  · by_cases e : q = r
    · subst e
      obtain ⟨h0, h1, h3, h4⟩ := hrs q hq
      refine ⟨?_, ?_, ?_, ?_⟩
      · rw [mSpr_0]; split <;> omega
      · rw [mSpr_1 hr]; exact h1
      · rw [mSpr_3]; exact zOr_lt h3 hb
      · rw [mSpr_4]; exact zOr_lt h4 (zAnd_lt hh)
    · have hne : ∀ k, k < 5 → mSpr S n r 13 (41 + 5 * q + k) = S 13 (41 + 5 * q + k) := fun k hk => mSpr_lo (by omega) (by omega) (by omega)
      rw [hne 0 (by decide), hne 1 (by decide), hne 3 (by decide), hne 4 (by decide)]
      exact hrs q hq
def mP1 (n r : Nat) (q : Nat × zS) : Nat × zS := if q.2 13 (41 + 5 * r + 1) = 1 then q else (q.1 + zpop (mBel q.2 n r), mSpr q.2 n r)
def mRnd (n t : Nat) (q : Nat × zS) : Nat × zS := ((zIt (fun r q => mP1 n r q) t q).1, zU (zIt (fun r q => mP1 n r q) t q).2 13 2 ((zIt (fun r q => mP1 n r q) t q).2 13 2 + 1))
def mRds (n t k : Nat) (S : zS) : Nat × zS := zIt (fun _ q => mRnd n t q) k (0, S)
theorem mP1_now {n t r : Nat} {q : Nat × zS} (h : mNow q.2 n t) (hr : r < 4) : mNow (mP1 n r q).2 n t := by
  unfold mP1; split
  · exact h
  · exact mSpr_now h hr
theorem mNow.u2 {S : zS} {n t k v : Nat} (h : mNow S n t) (hk : 2 ≤ k ∧ k < 5) : mNow (zU S 13 k v) n t := by
  obtain ⟨hn, hz, ht, ht4, hls, hrs⟩ := h
  refine ⟨(zU_j (by omega)).trans hn, hz, (zU_j (by omega)).trans ht, ht4, fun e he => ?_, fun q hq => ?_⟩
  · rw [zU_j (by omega), zU_j (by omega), zU_j (by omega)]; exact hls e he
  · rw [zU_j (by omega), zU_j (by omega), zU_j (by omega), zU_j (by omega)]; exact hrs q hq
theorem mRnd_now {n t : Nat} {q : Nat × zS} (h : mNow q.2 n t) : mNow (mRnd n t q).2 n t := by
  have ht4 := h.2.2.2.1
  exact (zIt_inv (fun q : Nat × zS => mNow q.2 n t) h (fun i q hi hq => mP1_now hq (by omega))).u2 (by decide)
theorem mRds_now {n t k : Nat} {S : zS} (h : mNow S n t) : mNow (mRds n t k S).2 n t := zIt_inv (fun q : Nat × zS => mNow q.2 n t) h (fun _ _ _ hq => mRnd_now hq)
theorem mP1_o {n r a b : Nat} {q : Nat × zS} (ha : a ≠ 13) : (mP1 n r q).2 a b = q.2 a b := by
  unfold mP1; split
  · rfl
  · exact mSpr_o ha
theorem mRnd_o {n t a b : Nat} {q : Nat × zS} (ha : a ≠ 13) : (mRnd n t q).2 a b = q.2 a b := by
  unfold mRnd
  dsimp only
  rw [zU_o ha]
  exact zIt_inv (fun p : Nat × zS => p.2 a b = q.2 a b) rfl (fun _ _ _ hp => (mP1_o ha).trans hp)
theorem mRds_o {n t k a b : Nat} {S : zS} (ha : a ≠ 13) : (mRds n t k S).2 a b = S a b := zIt_inv (fun p : Nat × zS => p.2 a b = S a b) rfl (fun _ _ _ hp => (mRnd_o ha).trans hp)

set_option maxRecDepth 100000 in
set_option maxHeartbeats 4000000 in
theorem c_X6_rounds {l : Launch} (hl : l.stackTraces = false) {G : zG} {S : zS} {J : Int64} {E : UInt64} {n t : Nat} (hm : mNow S n t) {k : Nat} (hk : k ≤ 40) : nCR l G mX6_rounds 5 0 0 [.ref 12, zi k] S J E (some (zi (mRds n t k S).1)) (mRds n t k S).2 J E := by
  refine nCR.of hl (by decide) rfl (Nat.le_of_ble_eq_true rfl) (ls := [some (.ref 12), some (zi k), none, none, none]) rfl (fun X C hF hX => ?_)
  subst hX
  obtain ⟨hn, hz, ht, ht4, hls, hrs⟩ := id hm
  refine sn_iconst C 0 (by decide) dX6_rounds_0 ?_
  refine sw_istore_2 C rfl dX6_rounds_1 ?_
  refine sn_iconst C 0 (by decide) dX6_rounds_2 ?_
  refine sw_istore_3 C rfl dX6_rounds_3 ?_
  have L4 : ∀ (kM i : Nat) (q : Nat × zS) (u : Option Value), i ≤ k → (mNow q.2 n t) → (q = zIt (fun _ q => mRnd n t q) i (0, S)) → k - i < kM → SN G X 0 0 4 [some (.ref 12), some (zi k), some (zi q.1), some (zi i), u] [] q.2 J E := by
    intro kM
    induction kM with
    | zero => intro i q u _ _ _ hkM; exact absurd hkM (by omega)
    | succ kM ih4 =>
      intro i q u hi hq hqe hkM
      refine sw_iload_3 C dX6_rounds_4 ?_
      refine sw_iload_1 C dX6_rounds_5 ?_
      refine sn_icmp_ge C 73 (by omega) (by omega) dX6_rounds_6 (by decide) (fun c6 => ?_) (fun c6 => ?_)
      · refine sw_iload_2 C dX6_rounds_73 ?_
        exact sn_iret C rfl hF dX6_rounds_74 (by decide) (by decide) (by rw [hqe, show i = k from by omega]; rfl) (by rw [hqe, show i = k from by omega]; rfl) rfl rfl
      · refine sn_iconst C 0 (by decide) dX6_rounds_9 ?_
        refine sw_istore_4 C rfl dX6_rounds_10 ?_
        have L12 : ∀ (kM j : Nat) (p : Nat × zS), j ≤ t → (mNow p.2 n t) → (p = zIt (fun r q => mP1 n r q) j q) → t - j < kM → SN G X 0 0 12 [some (.ref 12), some (zi k), some (zi p.1), some (zi i), some (zi j)] [] p.2 J E := by
          intro kM
          induction kM with
          | zero => intro j p _ _ _ hkM; exact absurd hkM (by omega)
          | succ kM ih12 =>
            intro j p hj hp hpe hkM
            obtain ⟨hpn, -, hpt, -, -, hprs⟩ := id hp
            refine sw_iload_4 C dX6_rounds_12 ?_
            refine sw_aload_0 C dX6_rounds_14 ?_
            refine sw_getR C (o' := 13) fX6_16 rfl (by decide) rfl rfl (by decide) dX6_rounds_15 ?_
            refine sn_iconst C 1 (by decide) dX6_rounds_18 ?_
            refine sn_ialde C (t) hpt rfl (by decide) (by omega) (by decide) dX6_rounds_19 ?_
            refine sn_icmp_ge C 57 (by omega) (by omega) dX6_rounds_20 (by decide) (fun c20 => ?_) (fun c20 => ?_)
            · have hje : j = t := by omega
              have he : p = zIt (fun r q => mP1 n r q) t q := by rw [hpe, hje]
              have hr : mRnd n t q = (p.1, zU p.2 13 2 (p.2 13 2 + 1)) := by unfold mRnd; rw [← he]
              have hnx : mNow (mRnd n t q).2 n t := mRnd_now hq
              refine sw_aload_0 C dX6_rounds_57 ?_
              refine sw_getR C (o' := 13) fX6_16 rfl (by decide) rfl rfl (by decide) dX6_rounds_58 ?_
              refine sn_iconst C 2 (by decide) dX6_rounds_61 ?_
              refine sw_dup2 C rfl rfl dX6_rounds_62 ?_
              refine sn_iald C rfl (by decide) (by omega) (by decide) dX6_rounds_63 ?_
              refine sn_iconst C 1 (by decide) dX6_rounds_64 ?_
              refine sn_iadd C dX6_rounds_65 ?_
              refine sn_iast C rfl (by decide) (by omega) (by decide) dX6_rounds_66 ?_
              refine sn_iinc_3 C rfl dX6_rounds_67 ?_
              refine sw_goto C 4 dX6_rounds_70 (by decide) ?_
              have hb := ih4 (i + 1) (mRnd n t q) (some (zi j)) (by omega) hnx (by rw [zIt, ← hqe]) (by omega)
              rw [hr] at hb
              exact hb
            · refine sw_iload_2 C dX6_rounds_23 ?_
              refine sw_aload_0 C dX6_rounds_24 ?_
              refine sw_getR C (o' := 13) fX6_16 rfl (by decide) rfl rfl (by decide) dX6_rounds_25 ?_
              refine sw_iload_4 C dX6_rounds_28 ?_
              refine sn_iconst C 1 (by decide) dX6_rounds_30 ?_
              refine sn_cS2r C vX6_of lX6_61 dX6_rounds_31 (Nat.le_of_ble_eq_true rfl) (c_X6_of hl) (by decide) (by decide) (by decide) ?_
              refine sn_iald C rfl (by decide) (by omega) (by decide) dX6_rounds_34 ?_
              refine sn_iconst C 1 (by decide) dX6_rounds_35 ?_
              refine sn_icmp_ne C 43 (by have := (hprs j (by omega)).2.1; omega) (by decide) dX6_rounds_36 (by decide) (fun c36 => ?_) (fun c36 => ?_)
              · have e2 : mP1 n j p = (p.1 + zpop (mBel p.2 n j), mSpr p.2 n j) := by unfold mP1; rw [if_neg c36]
                refine sw_aload_0 C dX6_rounds_43 ?_
                refine sw_iload_4 C dX6_rounds_44 ?_
                refine sn_cV1r C vX6_spreads lX6_136 rfl (by decide) rfl rfl dX6_rounds_46 (Nat.le_of_ble_eq_true rfl) (c_X6_spreads hl hp (by omega)) (by decide) (by decide) (by decide) ?_
                refine sn_iadd C dX6_rounds_49 ?_
                refine sw_istore_2 C rfl dX6_rounds_50 ?_
                refine sn_iinc_4 C rfl dX6_rounds_51 ?_
                refine sw_goto C 12 dX6_rounds_54 (by decide) ?_
                have hb := ih12 (j + 1) (mP1 n j p) (by omega) (mP1_now hp (by omega)) (by rw [zIt, ← hpe]) (by omega)
                first | (rw [e1] at hb; exact hb) | (rw [e2] at hb; exact hb)
              · have e1 : mP1 n j p = p := by unfold mP1; rw [if_pos c36]
                refine sn_iconst C 0 (by decide) dX6_rounds_39 ?_
                refine sw_goto C 49 dX6_rounds_40 (by decide) ?_
                refine sn_iadd C dX6_rounds_49 ?_
                refine sw_istore_2 C rfl dX6_rounds_50 ?_
                refine sn_iinc_4 C rfl dX6_rounds_51 ?_
                refine sw_goto C 12 dX6_rounds_54 (by decide) ?_
                have hb := ih12 (j + 1) (mP1 n j p) (by omega) (mP1_now hp (by omega)) (by rw [zIt, ← hpe]) (by omega)
                first | (rw [e1] at hb; exact hb) | (rw [e2] at hb; exact hb)
        exact L12 _ 0 q (by omega) hq rfl (Nat.lt_succ_self _)
  exact L4 _ 0 (0, S) _ (by omega) hm rfl (Nat.lt_succ_self _)

def mPasses (S : zS) (n t x : Nat) : Nat × zS := if 1 ≤ x ∧ x ≤ 20 then mRds n t x S else mFl S 1

set_option maxRecDepth 100000 in
set_option maxHeartbeats 4000000 in
theorem c_X6_passes {l : Launch} (hl : l.stackTraces = false) {G : zG} {S : zS} {J : Int64} {E : UInt64} {n t : Nat} (hm : mNow S n t) {x : Nat} (hx : x < 2 ^ 32) : nCR l G mX6_passes 6 0 0 [.ref 12, zi x] S J E (some (zi (mPasses S n t x).1)) (mPasses S n t x).2 J E := by
  refine nCR.of hl (by decide) rfl (Nat.le_of_ble_eq_true rfl) (ls := [some (.ref 12), some (zi x)]) rfl (fun X C hF hX => ?_)
  subst hX
  refine sw_iload_1 C dX6_passes_0 ?_
  refine sn_iconst C 1 (by decide) dX6_passes_1 ?_
  refine sn_bipush C 20 (by decide) dX6_passes_2 ?_
  refine sn_cS3r C vX6_isIn lX6_57 dX6_passes_4 (Nat.le_of_ble_eq_true rfl) (c_X6_isIn hl) (by decide) (by decide) (by decide) ?_
  refine sn_if_eqB C 18 dX6_passes_7 (by decide) (fun c7 => ?_) (fun c7 => ?_)
  · have c7 : ¬ (1 ≤ x ∧ x ≤ 20) := by
      intro h
      rw [← zInC hx (by decide) (by decide)] at h
      exact of_decide_eq_false c7 h
    refine sw_aload_0 C dX6_passes_18 ?_
    refine sn_iconst C 1 (by decide) dX6_passes_19 ?_
    refine sn_cV1r C vX6_fail lX6_72 rfl (by decide) rfl rfl dX6_passes_20 (Nat.le_of_ble_eq_true rfl) (c_X6_fail hl) (by decide) (by decide) (by decide) ?_
    exact sn_iret C rfl hF dX6_passes_23 (by decide) (by decide) (by unfold mPasses; first | rw [if_pos c7] | (rw [if_neg c7]; rfl)) (by unfold mPasses; first | rw [if_pos c7] | (rw [if_neg c7]; rfl)) rfl rfl
  · have c7 : 1 ≤ x ∧ x ≤ 20 := (zInC hx (by decide) (by decide)).mp (of_decide_eq_true c7)
    refine sw_aload_0 C dX6_passes_10 ?_
    refine sw_iload_1 C dX6_passes_11 ?_
    refine sn_cV1r C vX6_rounds lX6_139 rfl (by decide) rfl rfl dX6_passes_12 (Nat.le_of_ble_eq_true rfl) (c_X6_rounds hl hm (by omega)) (by decide) (by decide) (by decide) ?_
    refine sw_goto C 23 dX6_passes_15 (by decide) ?_
    exact sn_iret C rfl hF dX6_passes_23 (by decide) (by decide) (by unfold mPasses; first | rw [if_pos c7] | (rw [if_neg c7]; rfl)) (by unfold mPasses; first | rw [if_pos c7] | (rw [if_neg c7]; rfl)) rfl rfl
