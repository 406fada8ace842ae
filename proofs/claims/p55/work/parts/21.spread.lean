theorem zAnd_lt {x y : Nat} (h : x < 4096) : x &&& y < 4096 := Nat.lt_of_le_of_lt Nat.and_le_left h
theorem zAnd_lt' {x y : Nat} (h : y < 4096) : x &&& y < 4096 := Nat.lt_of_le_of_lt Nat.and_le_right h
theorem zOr_lt {x y : Nat} (hx : x < 4096) (hy : y < 4096) : x ||| y < 4096 := Nat.or_lt_two_pow (n := 12) hx hy
theorem zBit_lt {i : Nat} (h : i < 12) : 1 * 2 ^ i < 4096 := by
  rw [Nat.one_mul]
  exact Nat.pow_lt_pow_right (by decide) h
theorem zcnt_le (n : Nat) (p : Nat → Bool) : zcnt n p ≤ n := by
  unfold zcnt
  induction n with
  | zero => exact Nat.le_refl _
  | succ n ih => rw [zIt]; have := Bool.toNat_le (p n); omega
theorem zpop_le (x : Nat) : zpop x ≤ 12 := zcnt_le _ _
/-- masks of those with p -/
def zmask (n : Nat) (p : Nat → Bool) : Nat := zIt (fun i m => if p i then m ||| 1 * 2 ^ i else m) n 0
theorem zmask_lt {n : Nat} (h : n ≤ 12) (p : Nat → Bool) : zmask n p < 4096 := by
  unfold zmask
  induction n with
  | zero => show 0 < 4096; decide
  | succ n ih =>
    rw [zIt]
    split
    · exact zOr_lt (ih (by omega)) (zBit_lt (by omega))
    · exact ih (by omega)
def zHears (S : zS) (o e : Nat) : Bool := !(S o 3 ||| S o 4).testBit e && !(S 27 e &&& S o 3 == 0)
def zBelv (S : zS) (o e : Nat) : Bool := decide (S 31 e < S o 1 + zpop (S 27 e &&& S o 3))

set_option maxRecDepth 100000 in
set_option maxHeartbeats 4000000 in
theorem c_X3_hears {l : Launch} (hl : l.stackTraces = false) {G : zG} {S : zS} {J : Int64} {E : UInt64} {o : Nat} (hr : zRu o) {e : Nat} (he : e < 12) (hnb : ∀ e, e < 12 → S 27 e < 4096) : nCR l G mX3_hears 2 0 0 [.ref 25, .ref o, zi e] S J E (some (zi (zHears S o e).toNat)) S J E := by
  refine nCR.of hl (by decide) rfl (Nat.le_of_ble_eq_true rfl) (ls := [some (.ref 25), some (.ref o), some (zi e)]) rfl (fun X C hF hX => ?_)
  subst hX
  refine sw_aload_1 C dX3_hears_0 ?_
  refine sn_cV0r C vX2_aware lX3_98 hr.1 hr.2.1 rfl rfl dX3_hears_1 (Nat.le_of_ble_eq_true rfl) (c_X2_aware hl hr) (by decide) (by decide) (by decide) ?_
  refine sw_iload_2 C dX3_hears_4 ?_
  refine sn_cS2r C vX5_contains lX3_85 dX3_hears_5 (Nat.le_of_ble_eq_true rfl) (c_X5_contains hl (by omega)) (by decide) (by decide) (by decide) ?_
  refine sn_if_neB C 32 dX3_hears_8 (by decide) (fun c8 => ?_) (fun c8 => ?_)
  · refine sn_iconst C 0 (by decide) dX3_hears_32 ?_
    exact sn_zret C (v := false) rfl hF dX3_hears_33 (by decide) (by decide) (by unfold zHears; first | (rw [c8]; rfl) | (rw [c25]; simp; done) | (rw [c8]; simp [c25])) rfl rfl rfl
  · refine sw_aload_0 C dX3_hears_11 ?_
    refine sw_getR C (o' := 26) fX3_12 rfl (by decide) rfl rfl (by decide) dX3_hears_12 ?_
    refine sw_getR C (o' := 27) fX3_125 rfl (by decide) rfl rfl (by decide) dX3_hears_15 ?_
    refine sw_iload_2 C dX3_hears_18 ?_
    refine sn_iald C rfl (by decide) (by omega) (by decide) dX3_hears_19 ?_
    refine sw_aload_1 C dX3_hears_20 ?_
    refine sn_getI C fX3_82 hr.1 hr.2.1 rfl dX3_hears_21 ?_
    refine sn_iand C dX3_hears_24 ?_
    refine sn_if_eq C 32 (by have := zAnd_lt (y := S o 3) (hnb e he); omega) dX3_hears_25 (by decide) (fun c25 => ?_) (fun c25 => ?_)
    · refine sn_iconst C 0 (by decide) dX3_hears_32 ?_
      exact sn_zret C (v := false) rfl hF dX3_hears_33 (by decide) (by decide) (by unfold zHears; first | (rw [c8]; rfl) | (rw [c25]; simp; done) | (rw [c8]; simp [c25])) rfl rfl rfl
    · refine sn_iconst C 1 (by decide) dX3_hears_28 ?_
      refine sw_goto C 33 dX3_hears_29 (by decide) ?_
      exact sn_zret C (v := true) rfl hF dX3_hears_33 (by decide) (by decide) (by unfold zHears; first | (rw [c8]; rfl) | (rw [c25]; simp; done) | (rw [c8]; simp [c25])) rfl rfl rfl

set_option maxRecDepth 100000 in
set_option maxHeartbeats 4000000 in
theorem c_X3_believes {l : Launch} (hl : l.stackTraces = false) {G : zG} {S : zS} {J : Int64} {E : UInt64} {o : Nat} (hr : zRu o) {e : Nat} (he : e < 12) (hnb : ∀ e, e < 12 → S 27 e < 4096) (hf : S o 1 ≤ 9) (hd : S 31 e ≤ 9) : nCR l G mX3_believes 1 0 0 [.ref 25, .ref o, zi e] S J E (some (zi (zBelv S o e).toNat)) S J E := by
  refine nCR.of hl (by decide) rfl (Nat.le_of_ble_eq_true rfl) (ls := [some (.ref 25), some (.ref o), some (zi e), none]) rfl (fun X C hF hX => ?_)
  subst hX
  refine sw_aload_0 C dX3_believes_0 ?_
  refine sw_getR C (o' := 26) fX3_12 rfl (by decide) rfl rfl (by decide) dX3_believes_1 ?_
  refine sw_getR C (o' := 27) fX3_125 rfl (by decide) rfl rfl (by decide) dX3_believes_4 ?_
  refine sw_iload_2 C dX3_believes_7 ?_
  refine sn_iald C rfl (by decide) (by omega) (by decide) dX3_believes_8 ?_
  refine sw_aload_1 C dX3_believes_9 ?_
  refine sn_getI C fX3_82 hr.1 hr.2.1 rfl dX3_believes_10 ?_
  refine sn_iand C dX3_believes_13 ?_
  refine sn_cS1r C vJ6_bitCount_0f7a4 lX3_102 dX3_believes_14 (Nat.le_of_ble_eq_true rfl) (c_J6_bitCount_0f7a4 hl (zAnd_lt (hnb e he))) (by decide) (by decide) (by decide) ?_
  refine sw_istore_3 C rfl dX3_believes_17 ?_
  refine sw_aload_1 C dX3_believes_18 ?_
  refine sn_getI C fX3_88 hr.1 hr.2.1 rfl dX3_believes_19 ?_
  refine sw_iload_3 C dX3_believes_22 ?_
  refine sn_iadd C dX3_believes_23 ?_
  refine sw_aload_0 C dX3_believes_24 ?_
  refine sw_getR C (o' := 31) fX3_22 rfl (by decide) rfl rfl (by decide) dX3_believes_25 ?_
  refine sw_iload_2 C dX3_believes_28 ?_
  refine sn_iald C rfl (by decide) (by omega) (by decide) dX3_believes_29 ?_
  refine sn_icmp_le C 37 (by have := zpop_le (S 27 e &&& S o 3); omega) (by omega) dX3_believes_30 (by decide) (fun c30 => ?_) (fun c30 => ?_)
  · refine sn_iconst C 0 (by decide) dX3_believes_37 ?_
    exact sn_zret C (v := false) rfl hF dX3_believes_38 (by decide) (by decide) (by unfold zBelv; simp; omega) rfl rfl rfl
  · refine sn_iconst C 1 (by decide) dX3_believes_33 ?_
    refine sw_goto C 38 dX3_believes_34 (by decide) ?_
    exact sn_zret C (v := true) rfl hF dX3_believes_38 (by decide) (by decide) (by unfold zBelv; simp; omega) rfl rfl rfl

theorem zBelv_off {q : zS} {o i v e : Nat} (h1 : (27 : Nat) ≠ o + 1) (h2 : (31 : Nat) ≠ o + 1) : zBelv (zU q (o + 1) i v) o e = zBelv q o e := by
  unfold zBelv
  rw [zU_o h1, zU_o h2]
  simp only [zU_o (show o ≠ o + 1 by omega)]
/-- one round of a rumour -/
def zBel (S : zS) (o n : Nat) : Nat := zmask n (fun e => zHears S o e && zBelv S o e)
def zDbt (S : zS) (o n : Nat) : Nat := zmask n (fun e => zHears S o e && !zBelv S o e)
def zHrd (S : zS) (o n : Nat) : zS := zIt (fun i q => if zHears S o i then zU q (o + 1) i (S 25 5) else q) n S
def zSpread (S : zS) (o n : Nat) : Nat × zS :=
  if S o 2 = 0 then (0, S) else
    (zpop (zBel S o n), if zBel S o n = 0 then zU (zU (zU (zHrd S o n) o 3 (S o 3 ||| zBel S o n)) o 4 (S o 4 ||| zDbt S o n)) o 1 (S o 1 - 1) else zU (zU (zHrd S o n) o 3 (S o 3 ||| zBel S o n)) o 4 (S o 4 ||| zDbt S o n))
theorem zIt_inv {α : Type} (P : α → Prop) {f : Nat → α → α} {n : Nat} {x : α} (h0 : P x) (hs : ∀ i q, i < n → P q → P (f i q)) : P (zIt f n x) := by
  induction n with
  | zero => exact h0
  | succ n ih => rw [zIt]; exact hs n _ (by omega) (ih (fun i q hi => hs i q (by omega)))
theorem zHrd_off {S : zS} {o n a b : Nat} (h : a ≠ o + 1) : zHrd S o n a b = S a b := by
  refine zIt_inv (fun q : zS => q a b = S a b) rfl (fun i q _ hq => ?_)
  split
  · rw [zU_o h]; exact hq
  · exact hq
theorem zHrd_offs {S : zS} {o i a b : Nat} (h : a ≠ o + 1) : zIt (fun i q => if zHears S o i then zU q (o + 1) i (S 25 5) else q) i S a b = S a b := zHrd_off (n := i) h

set_option maxRecDepth 100000 in
set_option maxHeartbeats 4000000 in
theorem c_X3_spreadOnce {l : Launch} (hl : l.stackTraces = false) {G : zG} {S : zS} {J : Int64} {E : UInt64} {n : Nat} (hn : S 26 0 = n) (hz : n ≤ 12) {o : Nat} (hr : zRu o) (ho4 : o ≠ 26) (ho5 : o ≠ 25) (hnb : ∀ e, e < 12 → S 27 e < 4096) (hdb : ∀ e, e < 12 → S 31 e ≤ 9) (hf : S o 1 ≤ 9) (hal : S o 2 ≤ 1) (h3 : S o 3 < 4096) (h4 : S o 4 < 4096) : nCR l G mX3_spreadOnce 3 0 0 [.ref 25, .ref o] S J E (some (zi (zSpread S o n).1)) (zSpread S o n).2 J E := by
  refine nCR.of hl (by decide) rfl (Nat.le_of_ble_eq_true rfl) (ls := [some (.ref 25), some (.ref o), none, none, none]) rfl (fun X C hF hX => ?_)
  subst hX
  have hne : (27 : Nat) ≠ o + 1 := fun e => by have := hr.2.2.2.2.1; rw [← e] at this; exact absurd (show o = 26 by omega) ho4
  have hne2 : (31 : Nat) ≠ o + 1 := fun e => by have h := hr.1; rw [show o = 30 by omega] at h; exact absurd (congrArg Prod.fst h) (by decide)
  have hne3 : (26 : Nat) ≠ o + 1 := fun e => ho5 (by omega)
  have hne4 : (25 : Nat) ≠ o + 1 := fun e => by have h := hr.1; rw [show o = 24 by omega] at h; exact absurd (congrArg Prod.fst h) (by decide)
  refine sw_aload_1 C dX3_spreadOnce_0 ?_
  refine sn_getI C fX3_94 hr.1 hr.2.1 rfl dX3_spreadOnce_1 ?_
  refine sn_if_ne C 9 (by omega) dX3_spreadOnce_4 (by decide) (fun c4 => ?_) (fun c4 => ?_)
  · have h2n : ¬ S o 2 = 0 := c4
    refine sn_iconst C 0 (by decide) dX3_spreadOnce_9 ?_
    refine sw_istore_2 C rfl dX3_spreadOnce_10 ?_
    refine sn_iconst C 0 (by decide) dX3_spreadOnce_11 ?_
    refine sw_istore_3 C rfl dX3_spreadOnce_12 ?_
    refine sn_iconst C 0 (by decide) dX3_spreadOnce_13 ?_
    refine sw_istore_4 C rfl dX3_spreadOnce_14 ?_
    have L16 : ∀ (k i : Nat) (b : Nat) (dd : Nat) (q : zS), i ≤ n → (b = zmask i (fun e => zHears S o e && zBelv S o e)) → (dd = zmask i (fun e => zHears S o e && !zBelv S o e)) → (q = zIt (fun i q => if zHears S o i then zU q (o + 1) i (S 25 5) else q) i S) → n - i < k → SN G X 0 0 16 [some (.ref 25), some (.ref o), some (zi b), some (zi dd), some (zi i)] [] q J E := by
      intro k
      induction k with
      | zero => intro i b dd q _ _ _ _ hk; exact absurd hk (by omega)
      | succ k ih16 =>
        intro i b dd q hi hb hdd hq hk
        have hq0 : ∀ a b, a ≠ o + 1 → q a b = S a b := fun a b h => by rw [hq]; exact zHrd_offs h
        have e1 : ∀ e, zHears q o e = zHears S o e := fun e => by unfold zHears; rw [hq0 o 3 (by omega), hq0 o 4 (by omega), hq0 27 e hne]
        have e2 : ∀ e, zBelv q o e = zBelv S o e := fun e => by unfold zBelv; rw [hq0 o 1 (by omega), hq0 o 3 (by omega), hq0 27 e hne, hq0 31 e hne2]
        have hn2 : q 26 0 = n := (hq0 26 0 hne3).trans hn
        have hnb2 : ∀ e, e < 12 → q 27 e < 4096 := fun e he => by rw [hq0 27 e hne]; exact hnb e he
        have ht2 : q 25 5 = S 25 5 := hq0 25 5 hne4
        refine sw_iload_4 C dX3_spreadOnce_16 ?_
        refine sw_aload_0 C dX3_spreadOnce_18 ?_
        refine sw_getR C (o' := 26) fX3_12 rfl (by decide) rfl rfl (by decide) dX3_spreadOnce_19 ?_
        refine sn_getI C fX3_58 rfl (by decide) rfl dX3_spreadOnce_22 ?_
        refine sn_icmp_ge C 82 (by omega) (by omega) dX3_spreadOnce_25 (by decide) (fun c25 => ?_) (fun c25 => ?_)
        · have hin : i = n := by omega
          have hb2 : b = zBel S o n := by rw [hb, hin]; rfl
          have hd2 : dd = zDbt S o n := by rw [hdd, hin]; rfl
          have hq2 : q = zHrd S o n := by rw [hq, hin]; rfl
          refine sw_aload_1 C dX3_spreadOnce_82 ?_
          refine sw_dup C rfl dX3_spreadOnce_83 ?_
          refine sn_getI C fX3_82 hr.1 hr.2.1 rfl dX3_spreadOnce_84 ?_
          refine sw_iload_2 C dX3_spreadOnce_87 ?_
          refine sn_ior C dX3_spreadOnce_88 ?_
          refine sn_putI C fX3_82 hr.1 hr.2.1 rfl rfl dX3_spreadOnce_89 ?_
          refine sw_aload_1 C dX3_spreadOnce_92 ?_
          refine sw_dup C rfl dX3_spreadOnce_93 ?_
          refine sn_getI C fX3_91 hr.1 hr.2.1 rfl dX3_spreadOnce_94 ?_
          refine sw_iload_3 C dX3_spreadOnce_97 ?_
          refine sn_ior C dX3_spreadOnce_98 ?_
          refine sn_putI C fX3_91 hr.1 hr.2.1 rfl rfl dX3_spreadOnce_99 ?_
          refine sw_iload_2 C dX3_spreadOnce_102 ?_
          refine sn_if_ne C 110 (by have := zmask_lt hz (fun e => zHears S o e && zBelv S o e); rw [← show i = n by omega, ← hb] at this; omega) dX3_spreadOnce_103 (by decide) (fun c103 => ?_) (fun c103 => ?_)
          · refine sw_iload_2 C dX3_spreadOnce_110 ?_
            refine sn_cS1r C vJ6_bitCount_0f7a4 lX3_102 dX3_spreadOnce_111 (Nat.le_of_ble_eq_true rfl) (c_J6_bitCount_0f7a4 hl (by rw [hb]; exact zmask_lt (by omega) _)) (by decide) (by decide) (by decide) ?_
            exact sn_iret C rfl hF dX3_spreadOnce_114 (by decide) (by decide) (by simp [zSpread, h2n, hb2]) (by
                have r3 : q o 3 = S o 3 := hq0 o 3 (by omega)
                have r4 : q o 4 = S o 4 := hq0 o 4 (by omega)
                have r1 : q o 1 = S o 1 := hq0 o 1 (by omega)
                first
                  | (simp only [zSpread, if_neg h2n, ← hb2, if_neg c103]
                     rw [← hd2, ← hq2, ← r3, ← r4, zU_j (show (4 : Nat) ≠ 3 by decide)])
                  | (simp only [zSpread, if_neg h2n, ← hb2, if_pos c103]
                     rw [← hd2, ← hq2, ← r3, ← r4, ← r1, zU_j (show (4 : Nat) ≠ 3 by decide), zU_j (show (1 : Nat) ≠ 4 by decide), zU_j (show (1 : Nat) ≠ 3 by decide)])) rfl rfl
          · refine sw_aload_1 C dX3_spreadOnce_106 ?_
            refine sn_cV0v C vX2_weaken lX3_122 hr.1 hr.2.1 rfl rfl dX3_spreadOnce_107 (Nat.le_of_ble_eq_true rfl) (c_X2_weaken hl hr (by rw [zU_j (by decide), zU_j (by decide), hq0 o 1 (by omega)]; omega)) (by decide) (by decide) (by decide) ?_
            refine sw_iload_2 C dX3_spreadOnce_110 ?_
            refine sn_cS1r C vJ6_bitCount_0f7a4 lX3_102 dX3_spreadOnce_111 (Nat.le_of_ble_eq_true rfl) (c_J6_bitCount_0f7a4 hl (by rw [hb]; exact zmask_lt (by omega) _)) (by decide) (by decide) (by decide) ?_
            exact sn_iret C rfl hF dX3_spreadOnce_114 (by decide) (by decide) (by simp [zSpread, h2n, hb2]) (by
                have r3 : q o 3 = S o 3 := hq0 o 3 (by omega)
                have r4 : q o 4 = S o 4 := hq0 o 4 (by omega)
                have r1 : q o 1 = S o 1 := hq0 o 1 (by omega)
                first
                  | (simp only [zSpread, if_neg h2n, ← hb2, if_neg c103]
                     rw [← hd2, ← hq2, ← r3, ← r4, zU_j (show (4 : Nat) ≠ 3 by decide)])
                  | (simp only [zSpread, if_neg h2n, ← hb2, if_pos c103]
                     rw [← hd2, ← hq2, ← r3, ← r4, ← r1, zU_j (show (4 : Nat) ≠ 3 by decide), zU_j (show (1 : Nat) ≠ 4 by decide), zU_j (show (1 : Nat) ≠ 3 by decide)])) rfl rfl
        · refine sw_aload_0 C dX3_spreadOnce_28 ?_
          refine sw_aload_1 C dX3_spreadOnce_29 ?_
          refine sw_iload_4 C dX3_spreadOnce_30 ?_
          refine sn_cV2r C vX3_hears lX3_112 rfl (by decide) rfl rfl dX3_spreadOnce_32 (Nat.le_of_ble_eq_true rfl) (c_X3_hears hl hr (by omega) hnb2) (by decide) (by decide) (by decide) ?_
          refine sn_if_eqB C 76 dX3_spreadOnce_35 (by decide) (fun c35 => ?_) (fun c35 => ?_)
          · rw [e1] at c35
            refine sn_iinc_4 C rfl dX3_spreadOnce_76 ?_
            refine sw_goto C 16 dX3_spreadOnce_79 (by decide) ?_
            exact ih16 (i + 1) _ _ _ (by omega) (by rw [zmask, zIt, ← zmask, ← hb]; first | simp [c35, c56] | simp [c35]) (by rw [zmask, zIt, ← zmask, ← hdd]; first | simp [c35, c56] | simp [c35]) (by rw [zIt, ← hq]; first | simp [c35, ht2] | simp [c35]) (by omega)
          · rw [e1] at c35
            refine sw_aload_1 C dX3_spreadOnce_38 ?_
            refine sw_getR C (o' := (o + 1)) fX3_116 hr.1 hr.2.1 rfl hr.2.2.1 hr.2.2.2.1 dX3_spreadOnce_39 ?_
            refine sw_iload_4 C dX3_spreadOnce_42 ?_
            refine sw_aload_0 C dX3_spreadOnce_44 ?_
            refine sn_getI C fX3_35 rfl (by decide) rfl dX3_spreadOnce_45 ?_
            refine sn_iast C hr.2.2.2.2.1 hr.2.2.2.2.2 (by omega) (by decide) dX3_spreadOnce_48 ?_
            refine sw_aload_0 C dX3_spreadOnce_49 ?_
            refine sw_aload_1 C dX3_spreadOnce_50 ?_
            refine sw_iload_4 C dX3_spreadOnce_51 ?_
            refine sn_cV2r C vX3_believes lX3_119 rfl (by decide) rfl rfl dX3_spreadOnce_53 (Nat.le_of_ble_eq_true rfl) (c_X3_believes hl hr (by omega) (fun e he => by rw [zU_o hne]; exact hnb2 e he) (by rw [zU_o (by omega), hq0 o 1 (by omega)]; exact hf) (by rw [zU_o hne2, hq0 31 i hne2]; exact hdb i (by omega))) (by decide) (by decide) (by decide) ?_
            refine sn_if_eqB C 69 dX3_spreadOnce_56 (by decide) (fun c56 => ?_) (fun c56 => ?_)
            · rw [zBelv_off hne hne2, e2] at c56
              refine sw_iload_3 C dX3_spreadOnce_69 ?_
              refine sn_iconst C 1 (by decide) dX3_spreadOnce_70 ?_
              refine sw_iload_4 C dX3_spreadOnce_71 ?_
              refine sn_ishl C (by omega) dX3_spreadOnce_73 ?_
              refine sn_ior C dX3_spreadOnce_74 ?_
              refine sw_istore_3 C rfl dX3_spreadOnce_75 ?_
              refine sn_iinc_4 C rfl dX3_spreadOnce_76 ?_
              refine sw_goto C 16 dX3_spreadOnce_79 (by decide) ?_
              exact ih16 (i + 1) _ _ _ (by omega) (by rw [zmask, zIt, ← zmask, ← hb]; first | simp [c35, c56] | simp [c35]) (by rw [zmask, zIt, ← zmask, ← hdd]; first | simp [c35, c56] | simp [c35]) (by rw [zIt, ← hq]; first | simp [c35, ht2] | simp [c35]) (by omega)
            · rw [zBelv_off hne hne2, e2] at c56
              refine sw_iload_2 C dX3_spreadOnce_59 ?_
              refine sn_iconst C 1 (by decide) dX3_spreadOnce_60 ?_
              refine sw_iload_4 C dX3_spreadOnce_61 ?_
              refine sn_ishl C (by omega) dX3_spreadOnce_63 ?_
              refine sn_ior C dX3_spreadOnce_64 ?_
              refine sw_istore_2 C rfl dX3_spreadOnce_65 ?_
              refine sw_goto C 76 dX3_spreadOnce_66 (by decide) ?_
              refine sn_iinc_4 C rfl dX3_spreadOnce_76 ?_
              refine sw_goto C 16 dX3_spreadOnce_79 (by decide) ?_
              exact ih16 (i + 1) _ _ _ (by omega) (by rw [zmask, zIt, ← zmask, ← hb]; first | simp [c35, c56] | simp [c35]) (by rw [zmask, zIt, ← zmask, ← hdd]; first | simp [c35, c56] | simp [c35]) (by rw [zIt, ← hq]; first | simp [c35, ht2] | simp [c35]) (by omega)
    exact L16 _ 0 0 0 S (by omega) rfl rfl rfl (Nat.lt_succ_self _)
  · refine sn_iconst C 0 (by decide) dX3_spreadOnce_7 ?_
    exact sn_iret C rfl hF dX3_spreadOnce_8 (by decide) (by decide) (by simp [zSpread, c4]) (by simp [zSpread, c4]) rfl rfl
