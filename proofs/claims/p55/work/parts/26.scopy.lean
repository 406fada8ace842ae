set_option maxRecDepth 100000 in
set_option maxHeartbeats 4000000 in
theorem c_X3_begin {l : Launch} (hl : l.stackTraces = false) {G : zG} {S : zS} {J : Int64} {E : UInt64} {t : Nat} (ht : S 25 4 = t) (ht4 : t < 4) {x y : Nat} (hx : x < 12) : nCR l G mX3_begin 1 0 0 [.ref 25, zi x, zi y] S J E (some (zi t)) (zBegin S t x y) J E := by
  refine nCR.of hl (by decide) rfl (Nat.le_of_ble_eq_true rfl) (ls := [some (.ref 25), some (zi x), some (zi y), none]) rfl (fun X C hF hX => ?_)
  subst hX
  refine sw_aload_0 C dX3_begin_0 ?_
  refine sn_getI C fX3_31 rfl (by decide) rfl dX3_begin_1 ?_
  rw [ht]
  refine sw_istore_3 C rfl dX3_begin_4 ?_
  refine sw_aload_0 C dX3_begin_5 ?_
  refine sw_getR C (o' := 32) fX3_27 rfl (by decide) rfl rfl (by decide) dX3_begin_6 ?_
  refine sw_iload_3 C dX3_begin_9 ?_
  refine sn_aald C (o' := (33 + 2 * t)) rfl (by decide) (by decide) (by omega) (by decide) (zP32 (by omega)) (by omega) dX3_begin_10 ?_
  refine sw_iload_1 C dX3_begin_11 ?_
  refine sw_iload_2 C dX3_begin_12 ?_
  refine sw_aload_0 C dX3_begin_13 ?_
  refine sn_getI C fX3_35 rfl (by decide) rfl dX3_begin_14 ?_
  refine sn_cV3v C vX2_comeUp lX3_75 (zRu0 (by omega)).1 (zRu0 (by omega)).2.1 rfl rfl dX3_begin_17 (Nat.le_of_ble_eq_true rfl) (c_X2_comeUp hl (zRu0 (by omega)) hx) (by decide) (by decide) (by decide) ?_
  refine sw_aload_0 C dX3_begin_20 ?_
  refine sw_dup C rfl dX3_begin_21 ?_
  refine sn_getI C fX3_31 rfl (by decide) rfl dX3_begin_22 ?_
  refine sn_iconst C 1 (by decide) dX3_begin_25 ?_
  refine sn_iadd C dX3_begin_26 ?_
  refine sn_putI C fX3_31 rfl (by decide) rfl rfl dX3_begin_27 ?_
  refine sw_iload_3 C dX3_begin_30 ?_
  exact sn_iret C rfl hF dX3_begin_31 (by decide) (by decide) (by rfl) (by unfold zBegin; rw [show zCome S (33 + 2 * t) x y (S 25 5) 25 4 = t from by unfold zCome; simp only [zU_o (show (25 : Nat) ≠ 33 + 2 * t + 1 by omega), zU_o (show (25 : Nat) ≠ 33 + 2 * t by omega)]; exact ht]) rfl rfl

set_option maxRecDepth 100000 in
set_option maxHeartbeats 4000000 in
theorem c_X3_convert {l : Launch} (hl : l.stackTraces = false) {G : zG} {S : zS} {J : Int64} {E : UInt64} (hru : ∀ r, r < 4 → zRb S (33 + 2 * r)) (hdb : ∀ e, e < 12 → S 31 e ≤ 9) {x y : Nat} (hx : x < 4) (hy : y < 12) : nCR l G mX3_convert 0 0 0 [.ref 25, zi x, zi y] S J E (some (zi (zConvert S x y).1)) (zConvert S x y).2 J E := by
  refine nCR.of hl (by decide) rfl (Nat.le_of_ble_eq_true rfl) (ls := [some (.ref 25), some (zi x), some (zi y), none]) rfl (fun X C hF hX => ?_)
  subst hX
  obtain ⟨f1, f2, f3, f4⟩ := hru x hx
  have p3 := hdb y hy
  refine sw_aload_0 C dX3_convert_0 ?_
  refine sw_getR C (o' := 32) fX3_27 rfl (by decide) rfl rfl (by decide) dX3_convert_1 ?_
  refine sw_iload_1 C dX3_convert_4 ?_
  refine sn_aald C (o' := (33 + 2 * x)) rfl (by decide) (by decide) (by omega) (by decide) (zP32 (by omega)) (by omega) dX3_convert_5 ?_
  refine sw_astore_3 C rfl dX3_convert_6 ?_
  refine sw_aload_0 C dX3_convert_7 ?_
  refine sw_getR C (o' := 31) fX3_22 rfl (by decide) rfl rfl (by decide) dX3_convert_8 ?_
  refine sw_iload_2 C dX3_convert_11 ?_
  refine sn_iald C rfl (by decide) (by omega) (by decide) dX3_convert_12 ?_
  refine sw_aload_3 C dX3_convert_13 ?_
  refine sn_getI C fX3_88 (zRu0 (by omega)).1 (zRu0 (by omega)).2.1 rfl dX3_convert_14 ?_
  refine sn_icmp_gt C 22 (by omega) (by omega) dX3_convert_17 (by decide) (fun c17 => ?_) (fun c17 => ?_)
  · refine sw_aload_3 C dX3_convert_22 ?_
    refine sw_dup C rfl dX3_convert_23 ?_
    refine sn_getI C fX3_82 (zRu0 (by omega)).1 (zRu0 (by omega)).2.1 rfl dX3_convert_24 ?_
    refine sn_iconst C 1 (by decide) dX3_convert_27 ?_
    refine sw_iload_2 C dX3_convert_28 ?_
    refine sn_ishl C (by omega) dX3_convert_29 ?_
    refine sn_iconst C 4294967295 (by decide) dX3_convert_30 ?_
    refine sn_ixor C dX3_convert_31 ?_
    refine sn_iand C dX3_convert_32 ?_
    refine sn_putI C fX3_82 (zRu0 (by omega)).1 (zRu0 (by omega)).2.1 rfl rfl dX3_convert_33 ?_
    refine sw_aload_3 C dX3_convert_36 ?_
    refine sw_dup C rfl dX3_convert_37 ?_
    refine sn_getI C fX3_91 (zRu0 (by omega)).1 (zRu0 (by omega)).2.1 rfl dX3_convert_38 ?_
    refine sn_iconst C 1 (by decide) dX3_convert_41 ?_
    refine sw_iload_2 C dX3_convert_42 ?_
    refine sn_ishl C (by omega) dX3_convert_43 ?_
    refine sn_ior C dX3_convert_44 ?_
    refine sn_putI C fX3_91 (zRu0 (by omega)).1 (zRu0 (by omega)).2.1 rfl rfl dX3_convert_45 ?_
    refine sw_aload_0 C dX3_convert_48 ?_
    refine sw_dup C rfl dX3_convert_49 ?_
    refine sn_getI C fX3_41 rfl (by decide) rfl dX3_convert_50 ?_
    refine sn_iconst C 1 (by decide) dX3_convert_53 ?_
    refine sn_iadd C dX3_convert_54 ?_
    refine sn_putI C fX3_41 rfl (by decide) rfl rfl dX3_convert_55 ?_
    refine sn_iconst C 1 (by decide) dX3_convert_58 ?_
    exact sn_iret C rfl hF dX3_convert_59 (by decide) (by decide) (by unfold zConvert; rw [if_neg (by omega)]) (by unfold zConvert; rw [if_neg (by omega)]; simp only [zU_j (show (4 : Nat) ≠ 3 by decide), zU_o (show (25 : Nat) ≠ 33 + 2 * x by omega)]) rfl rfl
  · refine sn_iconst C 0 (by decide) dX3_convert_20 ?_
    exact sn_iret C rfl hF dX3_convert_21 (by decide) (by decide) (by unfold zConvert; rw [if_pos c17]) (by unfold zConvert; rw [if_pos c17]) rfl rfl

set_option maxRecDepth 100000 in
set_option maxHeartbeats 4000000 in
theorem c_X1_copyFrom {l : Launch} (hl : l.stackTraces = false) {G : zG} {S : zS} {J : Int64} {E : UInt64} {b p : Nat} (hb : zSc b) (hp : zSc p) : nCR l G mX1_copyFrom 0 0 0 [.ref (b + 1), .ref (p + 1)] S J E none (zNetCp S b p) J E := by
  refine nCR.of hl (by decide) rfl (Nat.le_of_ble_eq_true rfl) (ls := [some (.ref (b + 1)), some (.ref (p + 1))]) rfl (fun X C hF hX => ?_)
  subst hX
  refine sw_aload_0 C dX1_copyFrom_0 ?_
  refine sw_aload_1 C dX1_copyFrom_1 ?_
  refine sn_getI C fX1_9 hp.2.1.1 hp.2.1.2.1 rfl dX1_copyFrom_2 ?_
  refine sn_putI C fX1_9 hb.2.1.1 hb.2.1.2.1 rfl rfl dX1_copyFrom_5 ?_
  refine sw_aload_0 C dX1_copyFrom_8 ?_
  refine sw_aload_1 C dX1_copyFrom_9 ?_
  refine sn_getI C fX1_15 hp.2.1.1 hp.2.1.2.1 rfl dX1_copyFrom_10 ?_
  refine sn_putI C fX1_15 hb.2.1.1 hb.2.1.2.1 rfl rfl dX1_copyFrom_13 ?_
  refine sw_aload_1 C dX1_copyFrom_16 ?_
  refine sw_getR C (o' := (p + 2)) fX1_18 hp.2.1.1 hp.2.1.2.1 rfl hp.2.1.2.2 (by have := hp.2.2.2.2.2.2.2; omega) dX1_copyFrom_17 ?_
  refine sn_iconst C 0 (by decide) dX1_copyFrom_20 ?_
  refine sw_aload_0 C dX1_copyFrom_21 ?_
  refine sw_getR C (o' := (b + 2)) fX1_18 hb.2.1.1 hb.2.1.2.1 rfl hb.2.1.2.2 (by have := hb.2.2.2.2.2.2.2; omega) dX1_copyFrom_22 ?_
  refine sn_iconst C 0 (by decide) dX1_copyFrom_25 ?_
  refine sn_bipush C 12 (by decide) dX1_copyFrom_26 ?_
  refine sn_copy C kCopyX1 hp.2.2.1.1 hp.2.2.1.2 hb.2.2.1.1 hb.2.2.1.2 (by decide) (by decide) (by decide) (Nat.le_of_ble_eq_true rfl) dX1_copyFrom_28 ?_
  exact sn_vret C rfl hF dX1_copyFrom_31 (by decide) (by decide) rfl rfl rfl

set_option maxRecDepth 100000 in
set_option maxHeartbeats 4000000 in
theorem c_X3_copyFrom {l : Launch} (hl : l.stackTraces = false) {G : zG} {S : zS} {J : Int64} {E : UInt64} {b p : Nat} (hb : zSc b) (hp : zSc p) (hap : zAp b p) (hal : ∀ r, r < 4 → S (p + 8 + 2 * r) 2 ≤ 1) : nCR l G mX3_copyFrom 1 0 0 [.ref b, .ref p] S J E none (zScCp S b p) J E := by
  refine nCR.of hl (by decide) rfl (Nat.le_of_ble_eq_true rfl) (ls := [some (.ref b), some (.ref p), none]) rfl (fun X C hF hX => ?_)
  subst hX
  refine sw_aload_0 C dX3_copyFrom_0 ?_
  refine sw_getR C (o' := (b + 1)) fX3_12 hb.1.1 hb.1.2.1 rfl hb.1.2.2.1 (by have := hb.2.2.2.2.2.2.2; omega) dX3_copyFrom_1 ?_
  refine sw_aload_1 C dX3_copyFrom_4 ?_
  refine sw_getR C (o' := (p + 1)) fX3_12 hp.1.1 hp.1.2.1 rfl hp.1.2.2.1 (by have := hp.2.2.2.2.2.2.2; omega) dX3_copyFrom_5 ?_
  refine sn_cV1v C vX1_copyFrom lX3_45 hb.2.1.1 hb.2.1.2.1 rfl rfl dX3_copyFrom_8 (Nat.le_of_ble_eq_true rfl) (c_X1_copyFrom hl hb hp) (by decide) (by decide) (by decide) ?_
  refine sw_aload_1 C dX3_copyFrom_11 ?_
  refine sw_getR C (o' := (p + 5)) fX3_18 hp.1.1 hp.1.2.1 rfl hp.1.2.2.2.1 (by have := hp.2.2.2.2.2.2.2; omega) dX3_copyFrom_12 ?_
  refine sn_iconst C 0 (by decide) dX3_copyFrom_15 ?_
  refine sw_aload_0 C dX3_copyFrom_16 ?_
  refine sw_getR C (o' := (b + 5)) fX3_18 hb.1.1 hb.1.2.1 rfl hb.1.2.2.2.1 (by have := hb.2.2.2.2.2.2.2; omega) dX3_copyFrom_17 ?_
  refine sn_iconst C 0 (by decide) dX3_copyFrom_20 ?_
  refine sn_bipush C 12 (by decide) dX3_copyFrom_21 ?_
  refine sn_copy C kCopyX3 hp.2.2.2.1.1 hp.2.2.2.1.2 hb.2.2.2.1.1 hb.2.2.2.1.2 (by decide) (by decide) (by decide) (Nat.le_of_ble_eq_true rfl) dX3_copyFrom_23 ?_
  refine sw_aload_1 C dX3_copyFrom_26 ?_
  refine sw_getR C (o' := (p + 6)) fX3_22 hp.1.1 hp.1.2.1 rfl hp.1.2.2.2.2.1 (by have := hp.2.2.2.2.2.2.2; omega) dX3_copyFrom_27 ?_
  refine sn_iconst C 0 (by decide) dX3_copyFrom_30 ?_
  refine sw_aload_0 C dX3_copyFrom_31 ?_
  refine sw_getR C (o' := (b + 6)) fX3_22 hb.1.1 hb.1.2.1 rfl hb.1.2.2.2.2.1 (by have := hb.2.2.2.2.2.2.2; omega) dX3_copyFrom_32 ?_
  refine sn_iconst C 0 (by decide) dX3_copyFrom_35 ?_
  refine sn_bipush C 12 (by decide) dX3_copyFrom_36 ?_
  refine sn_copy C kCopyX3 hp.2.2.2.2.1.1 hp.2.2.2.2.1.2 hb.2.2.2.2.1.1 hb.2.2.2.2.1.2 (by decide) (by decide) (by decide) (Nat.le_of_ble_eq_true rfl) dX3_copyFrom_38 ?_
  have hal1 : ∀ r, r < 4 → zCp (zCp (zNetCp S b p) (p + 5) (b + 5) 12) (p + 6) (b + 6) 12 (p + 8 + 2 * r) 2 ≤ 1 := fun r hr => by
    unfold zAp at hap
    rw [zCp_o (by omega), zCp_o (by omega), zNetCp_o (by omega) (by omega)]; exact hal r hr
  refine sn_iconst C 0 (by decide) dX3_copyFrom_41 ?_
  refine sw_istore_2 C rfl dX3_copyFrom_42 ?_
  have L43 : ∀ (k i : Nat) (q : zS), i ≤ 4 → ((∀ r, r < 4 → q (p + 8 + 2 * r) 2 ≤ 1)) → (q = zIt (fun r q => zRcp q (b + 8 + 2 * r) (p + 8 + 2 * r)) i (zCp (zCp (zNetCp S b p) (p + 5) (b + 5) 12) (p + 6) (b + 6) 12)) → 4 - i < k → SN G X 0 0 43 [some (.ref b), some (.ref p), some (zi i)] [] q J E := by
    intro k
    induction k with
    | zero => intro i q _ _ _ hk; exact absurd hk (by omega)
    | succ k ih43 =>
      intro i q hi hal2 hq hk
      refine sw_iload_2 C dX3_copyFrom_43 ?_
      refine sn_iconst C 4 (by decide) dX3_copyFrom_44 ?_
      refine sn_icmp_ge C 69 (by omega) (by omega) dX3_copyFrom_45 (by decide) (fun c45 => ?_) (fun c45 => ?_)
      · have hq4 : q = zRumCp S b p := by rw [hq, show i = 4 from by omega]; rfl
        refine sw_aload_0 C dX3_copyFrom_69 ?_
        refine sw_aload_1 C dX3_copyFrom_70 ?_
        refine sn_getI C fX3_31 hp.1.1 hp.1.2.1 rfl dX3_copyFrom_71 ?_
        refine sn_putI C fX3_31 hb.1.1 hb.1.2.1 rfl rfl dX3_copyFrom_74 ?_
        refine sw_aload_0 C dX3_copyFrom_77 ?_
        refine sw_aload_1 C dX3_copyFrom_78 ?_
        refine sn_getI C fX3_35 hp.1.1 hp.1.2.1 rfl dX3_copyFrom_79 ?_
        refine sn_putI C fX3_35 hb.1.1 hb.1.2.1 rfl rfl dX3_copyFrom_82 ?_
        refine sw_aload_0 C dX3_copyFrom_85 ?_
        refine sw_aload_1 C dX3_copyFrom_86 ?_
        refine sn_getI C fX3_38 hp.1.1 hp.1.2.1 rfl dX3_copyFrom_87 ?_
        refine sn_putI C fX3_38 hb.1.1 hb.1.2.1 rfl rfl dX3_copyFrom_90 ?_
        refine sw_aload_0 C dX3_copyFrom_93 ?_
        refine sw_aload_1 C dX3_copyFrom_94 ?_
        refine sn_getI C fX3_41 hp.1.1 hp.1.2.1 rfl dX3_copyFrom_95 ?_
        refine sn_putI C fX3_41 hb.1.1 hb.1.2.1 rfl rfl dX3_copyFrom_98 ?_
        exact sn_vret C rfl hF dX3_copyFrom_101 (by decide) (by decide) (by unfold zScCp; rw [← hq4]) rfl rfl
      · refine sw_aload_0 C dX3_copyFrom_48 ?_
        refine sw_getR C (o' := (b + 7)) fX3_27 hb.1.1 hb.1.2.1 rfl hb.1.2.2.2.2.2 (by have := hb.2.2.2.2.2.2.2; omega) dX3_copyFrom_49 ?_
        refine sw_iload_2 C dX3_copyFrom_52 ?_
        refine sn_aald C (o' := (b + 8 + 2 * i)) hb.2.2.2.2.2.1.1 (by decide) hb.2.2.2.2.2.1.2 (by omega) (by decide) (hb.2.2.2.2.2.2.1 i (by omega)).1 (by have := hb.2.2.2.2.2.2.2; omega) dX3_copyFrom_53 ?_
        refine sw_aload_1 C dX3_copyFrom_54 ?_
        refine sw_getR C (o' := (p + 7)) fX3_27 hp.1.1 hp.1.2.1 rfl hp.1.2.2.2.2.2 (by have := hp.2.2.2.2.2.2.2; omega) dX3_copyFrom_55 ?_
        refine sw_iload_2 C dX3_copyFrom_58 ?_
        refine sn_aald C (o' := (p + 8 + 2 * i)) hp.2.2.2.2.2.1.1 (by decide) hp.2.2.2.2.2.1.2 (by omega) (by decide) (hp.2.2.2.2.2.2.1 i (by omega)).1 (by have := hp.2.2.2.2.2.2.2; omega) dX3_copyFrom_59 ?_
        refine sn_cV1v C vX2_copyFrom lX3_55 (hb.2.2.2.2.2.2.1 i (by omega)).2.1 (hb.2.2.2.2.2.2.1 i (by omega)).2.2.1 rfl rfl dX3_copyFrom_60 (Nat.le_of_ble_eq_true rfl) (c_X2_copyFrom hl (hb.2.2.2.2.2.2.1 i (by omega)).2 (hp.2.2.2.2.2.2.1 i (by omega)).2 (by unfold zAp at hap; omega) (hal2 i (by omega))) (by decide) (by decide) (by decide) ?_
        refine sn_iinc_2 C rfl dX3_copyFrom_63 ?_
        refine sw_goto C 43 dX3_copyFrom_66 (by decide) ?_
        exact ih43 (i + 1) _ (by omega) (fun r hr => by rw [zRcp_o (by unfold zAp at hap; omega) (by unfold zAp at hap; omega)]; exact hal2 r hr) (by rw [zIt, ← hq]) (by omega)
  exact L43 _ 0 _ (by omega) hal1 rfl (Nat.lt_succ_self _)

def zKeep (S : zS) (b : Nat) : zS := zU (zU (zScCp S (73 + 16 * S 1 2) b) 1 2 ((S 1 2 + 1) % 8)) 1 1 (min 8 (S 1 1 + 1))
def zBack (S : zS) (b : Nat) : zS := zScCp (zU (zU S 1 2 ((S 1 2 + 7) % 8)) 1 1 (S 1 1 - 1)) b (73 + 16 * ((S 1 2 + 7) % 8))

set_option maxRecDepth 100000 in
set_option maxHeartbeats 4000000 in
theorem c_X0_keep {l : Launch} (hl : l.stackTraces = false) {G : zG} {S : zS} {J : Int64} {E : UInt64} {b : Nat} (hb : zSc b) (hb1 : b < 73) (hn : S 1 2 < 8) (hk : S 1 1 ≤ 8) (hal : ∀ r, r < 4 → S (b + 8 + 2 * r) 2 ≤ 1) : nCR l G mX0_keep 2 0 0 [.ref 1, .ref b] S J E none (zKeep S b) J E := by
  refine nCR.of hl (by decide) rfl (Nat.le_of_ble_eq_true rfl) (ls := [some (.ref 1), some (.ref b)]) rfl (fun X C hF hX => ?_)
  subst hX
  have hn2 : zScCp S (73 + 16 * S 1 2) b 1 2 = S 1 2 := zScCp_o (by omega)
  have hk2 : zScCp S (73 + 16 * S 1 2) b 1 1 = S 1 1 := zScCp_o (by omega)
  refine sw_aload_0 C dX0_keep_0 ?_
  refine sw_getR C (o' := 2) fX0_11 rfl (by decide) rfl rfl (by decide) dX0_keep_1 ?_
  refine sw_aload_0 C dX0_keep_4 ?_
  refine sn_getI C fX0_21 rfl (by decide) rfl dX0_keep_5 ?_
  refine sn_aald C (o' := (73 + 16 * S 1 2)) rfl (by decide) (by decide) (by omega) (by decide) (zP2 (by omega)) (by omega) dX0_keep_8 ?_
  refine sw_aload_1 C dX0_keep_9 ?_
  refine sn_cV1v C vX3_copyFrom lX0_25 (zScH hn).1.1 (zScH hn).1.2.1 rfl rfl dX0_keep_10 (Nat.le_of_ble_eq_true rfl) (c_X3_copyFrom hl (zScH hn) hb (by unfold zAp; have := hb.2.2.2.2.2.2.2; have h9 : b = 25 ∨ b = 41 ∨ b = 57 := zSc_b hb hb1; omega) hal) (by decide) (by decide) (by decide) ?_
  refine sw_aload_0 C dX0_keep_13 ?_
  refine sw_aload_0 C dX0_keep_14 ?_
  refine sn_getIe C (S 1 2) hn2 fX0_21 rfl (by decide) rfl dX0_keep_15 ?_
  refine sn_iconst C 1 (by decide) dX0_keep_18 ?_
  refine sn_iadd C dX0_keep_19 ?_
  refine sn_bipush C 8 (by decide) dX0_keep_20 ?_
  refine sn_irem C (by omega) (by omega) (by omega) dX0_keep_22 ?_
  refine sn_putI C fX0_21 rfl (by decide) rfl rfl dX0_keep_23 ?_
  refine sw_aload_0 C dX0_keep_26 ?_
  refine sn_bipush C 8 (by decide) dX0_keep_27 ?_
  refine sw_aload_0 C dX0_keep_29 ?_
  refine sn_getIe C (S 1 1) (by rw [zU_j (by decide)]; exact hk2) fX0_17 rfl (by decide) rfl dX0_keep_30 ?_
  refine sn_iconst C 1 (by decide) dX0_keep_33 ?_
  refine sn_iadd C dX0_keep_34 ?_
  refine sn_min C kMinX0 (by decide) (by omega) (by decide) (by decide) (Nat.le_of_ble_eq_true rfl) dX0_keep_35 ?_
  refine sn_putI C fX0_17 rfl (by decide) rfl rfl dX0_keep_38 ?_
  exact sn_vret C rfl hF dX0_keep_41 (by decide) (by decide) rfl rfl rfl

set_option maxRecDepth 100000 in
set_option maxHeartbeats 4000000 in
theorem c_X0_takeBack {l : Launch} (hl : l.stackTraces = false) {G : zG} {S : zS} {J : Int64} {E : UInt64} {b : Nat} (hb : zSc b) (hb1 : b < 73) (hn : S 1 2 < 8) (hk : 1 ≤ S 1 1) (hal : ∀ r, r < 4 → S (73 + 16 * ((S 1 2 + 7) % 8) + 8 + 2 * r) 2 ≤ 1) : nCR l G mX0_takeBack 2 0 0 [.ref 1, .ref b] S J E none (zBack S b) J E := by
  refine nCR.of hl (by decide) rfl (Nat.le_of_ble_eq_true rfl) (ls := [some (.ref 1), some (.ref b)]) rfl (fun X C hF hX => ?_)
  subst hX
  have hn7 : (S 1 2 + 7) % 8 < 8 := Nat.mod_lt _ (by decide)
  refine sw_aload_0 C dX0_takeBack_0 ?_
  refine sw_aload_0 C dX0_takeBack_1 ?_
  refine sn_getI C fX0_21 rfl (by decide) rfl dX0_takeBack_2 ?_
  refine sn_bipush C 8 (by decide) dX0_takeBack_5 ?_
  refine sn_iadd C dX0_takeBack_7 ?_
  refine sn_iconst C 1 (by decide) dX0_takeBack_8 ?_
  refine sn_isub C (by omega) dX0_takeBack_9 ?_
  refine sn_bipush C 8 (by decide) dX0_takeBack_10 ?_
  refine sn_irem C (by omega) (by omega) (by omega) dX0_takeBack_12 ?_
  refine sn_putI C fX0_21 rfl (by decide) rfl rfl dX0_takeBack_13 ?_
  refine sw_aload_0 C dX0_takeBack_16 ?_
  refine sw_dup C rfl dX0_takeBack_17 ?_
  refine sn_getIe C (S 1 1) (zU_j (by decide)) fX0_17 rfl (by decide) rfl dX0_takeBack_18 ?_
  refine sn_iconst C 1 (by decide) dX0_takeBack_21 ?_
  refine sn_isub C (by omega) dX0_takeBack_22 ?_
  refine sn_putI C fX0_17 rfl (by decide) rfl rfl dX0_takeBack_23 ?_
  refine sw_aload_1 C dX0_takeBack_26 ?_
  refine sw_aload_0 C dX0_takeBack_27 ?_
  refine sw_getR C (o' := 2) fX0_11 rfl (by decide) rfl rfl (by decide) dX0_takeBack_28 ?_
  refine sw_aload_0 C dX0_takeBack_31 ?_
  refine sn_getIe C (((S 1 2 + 7) % 8)) (by rw [zU_j (by decide), zU_s, show S 1 2 + 8 - 1 = S 1 2 + 7 from by omega]) fX0_21 rfl (by decide) rfl dX0_takeBack_32 ?_
  refine sn_aald C (o' := (73 + 16 * ((S 1 2 + 7) % 8))) rfl (by decide) (by decide) (by omega) (by decide) (zP2 (by omega)) (by omega) dX0_takeBack_35 ?_
  refine sn_cV1v C vX3_copyFrom lX0_25 hb.1.1 hb.1.2.1 rfl rfl dX0_takeBack_36 (Nat.le_of_ble_eq_true rfl) (c_X3_copyFrom hl hb (zScH hn7) (by unfold zAp; have h9 : b = 25 ∨ b = 41 ∨ b = 57 := zSc_b hb hb1; omega) (fun r hr => by rw [zU_o (by omega), zU_o (by omega)]; exact hal r hr)) (by decide) (by decide) (by decide) ?_
  exact sn_vret C rfl hF dX0_takeBack_39 (by decide) (by decide) rfl rfl rfl
