def zRcp (S : zS) (o p : Nat) : zS := zCp (zU (zU (zU (zU (zU S o 0 (S p 0)) o 1 (zU S o 0 (S p 0) p 1)) o 2 (zU (zU S o 0 (S p 0)) o 1 (zU S o 0 (S p 0) p 1) p 2)) o 3 (zU (zU (zU S o 0 (S p 0)) o 1 (zU S o 0 (S p 0) p 1)) o 2 (zU (zU S o 0 (S p 0)) o 1 (zU S o 0 (S p 0) p 1) p 2) p 3)) o 4 (zU (zU (zU (zU S o 0 (S p 0)) o 1 (zU S o 0 (S p 0) p 1)) o 2 (zU (zU S o 0 (S p 0)) o 1 (zU S o 0 (S p 0) p 1) p 2)) o 3 (zU (zU (zU S o 0 (S p 0)) o 1 (zU S o 0 (S p 0) p 1)) o 2 (zU (zU S o 0 (S p 0)) o 1 (zU S o 0 (S p 0) p 1) p 2) p 3) p 4)) (p + 1) (o + 1) 12
def zCome (S : zS) (o e f t : Nat) : zS := zU (zU (zU (zU (zU (zU S o 0 e) o 1 f) o 2 1) o 3 (1 * 2 ^ e)) o 4 0) (o + 1) e t

set_option maxRecDepth 100000 in
set_option maxHeartbeats 4000000 in
theorem c_X2_copyFrom {l : Launch} (hl : l.stackTraces = false) {G : zG} {S : zS} {J : Int64} {E : UInt64} {o : Nat} (hr : zRu o) {p : Nat} (hp : zRu p) (hop : p ≠ o) (hb : S p 2 ≤ 1) : nCR l G mX2_copyFrom 0 0 0 [.ref o, .ref p] S J E none (zRcp S o p) J E := by
  refine nCR.of hl (by decide) rfl (Nat.le_of_ble_eq_true rfl) (ls := [some (.ref o), some (.ref p)]) rfl (fun X C hF hX => ?_)
  subst hX
  refine sw_aload_0 C dX2_copyFrom_0 ?_
  refine sw_aload_1 C dX2_copyFrom_1 ?_
  refine sn_getI C fX2_9 hp.1 hp.2.1 rfl dX2_copyFrom_2 ?_
  refine sn_putI C fX2_9 hr.1 hr.2.1 rfl rfl dX2_copyFrom_5 ?_
  refine sw_aload_0 C dX2_copyFrom_8 ?_
  refine sw_aload_1 C dX2_copyFrom_9 ?_
  refine sn_getI C fX2_15 hp.1 hp.2.1 rfl dX2_copyFrom_10 ?_
  refine sn_putI C fX2_15 hr.1 hr.2.1 rfl rfl dX2_copyFrom_13 ?_
  refine sw_aload_0 C dX2_copyFrom_16 ?_
  refine sw_aload_1 C dX2_copyFrom_17 ?_
  refine sn_getI C fX2_18 hp.1 hp.2.1 rfl dX2_copyFrom_18 ?_
  refine sn_putZN C (by rw [zU_o hop, zU_o hop]; exact hb) fX2_18 hr.1 hr.2.1 rfl rfl dX2_copyFrom_21 ?_
  refine sw_aload_0 C dX2_copyFrom_24 ?_
  refine sw_aload_1 C dX2_copyFrom_25 ?_
  refine sn_getI C fX2_22 hp.1 hp.2.1 rfl dX2_copyFrom_26 ?_
  refine sn_putI C fX2_22 hr.1 hr.2.1 rfl rfl dX2_copyFrom_29 ?_
  refine sw_aload_0 C dX2_copyFrom_32 ?_
  refine sw_aload_1 C dX2_copyFrom_33 ?_
  refine sn_getI C fX2_25 hp.1 hp.2.1 rfl dX2_copyFrom_34 ?_
  refine sn_putI C fX2_25 hr.1 hr.2.1 rfl rfl dX2_copyFrom_37 ?_
  refine sw_aload_1 C dX2_copyFrom_40 ?_
  refine sw_getR C (o' := (p + 1)) fX2_28 hp.1 hp.2.1 rfl hp.2.2.1 hp.2.2.2.1 dX2_copyFrom_41 ?_
  refine sn_iconst C 0 (by decide) dX2_copyFrom_44 ?_
  refine sw_aload_0 C dX2_copyFrom_45 ?_
  refine sw_getR C (o' := (o + 1)) fX2_28 hr.1 hr.2.1 rfl hr.2.2.1 hr.2.2.2.1 dX2_copyFrom_46 ?_
  refine sn_iconst C 0 (by decide) dX2_copyFrom_49 ?_
  refine sn_bipush C 12 (by decide) dX2_copyFrom_50 ?_
  refine sn_copy C kCopyX2 hp.2.2.2.2.1 hp.2.2.2.2.2 hr.2.2.2.2.1 hr.2.2.2.2.2 (by decide) (by decide) (by decide) (Nat.le_of_ble_eq_true rfl) dX2_copyFrom_52 ?_
  exact sn_vret C rfl hF dX2_copyFrom_55 (by decide) (by decide) rfl rfl rfl

set_option maxRecDepth 100000 in
set_option maxHeartbeats 4000000 in
theorem c_X2_comeUp {l : Launch} (hl : l.stackTraces = false) {G : zG} {S : zS} {J : Int64} {E : UInt64} {o : Nat} (hr : zRu o) {e f t : Nat} (he : e < 12) : nCR l G mX2_comeUp 0 0 0 [.ref o, zi e, zi f, zi t] S J E none (zCome S o e f t) J E := by
  refine nCR.of hl (by decide) rfl (Nat.le_of_ble_eq_true rfl) (ls := [some (.ref o), some (zi e), some (zi f), some (zi t)]) rfl (fun X C hF hX => ?_)
  subst hX
  refine sw_aload_0 C dX2_comeUp_0 ?_
  refine sw_iload_1 C dX2_comeUp_1 ?_
  refine sn_putI C fX2_9 hr.1 hr.2.1 rfl rfl dX2_comeUp_2 ?_
  refine sw_aload_0 C dX2_comeUp_5 ?_
  refine sw_iload_2 C dX2_comeUp_6 ?_
  refine sn_putI C fX2_15 hr.1 hr.2.1 rfl rfl dX2_comeUp_7 ?_
  refine sw_aload_0 C dX2_comeUp_10 ?_
  refine sn_iconst C 1 (by decide) dX2_comeUp_11 ?_
  refine sn_putZN C (by decide) fX2_18 hr.1 hr.2.1 rfl rfl dX2_comeUp_12 ?_
  refine sw_aload_0 C dX2_comeUp_15 ?_
  refine sn_iconst C 1 (by decide) dX2_comeUp_16 ?_
  refine sw_iload_1 C dX2_comeUp_17 ?_
  refine sn_ishl C (by omega) dX2_comeUp_18 ?_
  refine sn_putI C fX2_22 hr.1 hr.2.1 rfl rfl dX2_comeUp_19 ?_
  refine sw_aload_0 C dX2_comeUp_22 ?_
  refine sn_iconst C 0 (by decide) dX2_comeUp_23 ?_
  refine sn_putI C fX2_25 hr.1 hr.2.1 rfl rfl dX2_comeUp_24 ?_
  refine sw_aload_0 C dX2_comeUp_27 ?_
  refine sw_getR C (o' := (o + 1)) fX2_28 hr.1 hr.2.1 rfl hr.2.2.1 hr.2.2.2.1 dX2_comeUp_28 ?_
  refine sw_iload_1 C dX2_comeUp_31 ?_
  refine sw_iload_3 C dX2_comeUp_32 ?_
  refine sn_iast C hr.2.2.2.2.1 hr.2.2.2.2.2 (by omega) (by decide) dX2_comeUp_33 ?_
  exact sn_vret C rfl hF dX2_comeUp_34 (by decide) (by decide) rfl rfl rfl

set_option maxRecDepth 100000 in
set_option maxHeartbeats 4000000 in
theorem c_X2_aware {l : Launch} (hl : l.stackTraces = false) {G : zG} {S : zS} {J : Int64} {E : UInt64} {o : Nat} (hr : zRu o) : nCR l G mX2_aware 0 0 0 [.ref o] S J E (some (zi (S o 3 ||| S o 4))) S J E := by
  refine nCR.of hl (by decide) rfl (Nat.le_of_ble_eq_true rfl) (ls := [some (.ref o)]) rfl (fun X C hF hX => ?_)
  subst hX
  refine sw_aload_0 C dX2_aware_0 ?_
  refine sn_getI C fX2_22 hr.1 hr.2.1 rfl dX2_aware_1 ?_
  refine sw_aload_0 C dX2_aware_4 ?_
  refine sn_getI C fX2_25 hr.1 hr.2.1 rfl dX2_aware_5 ?_
  refine sn_ior C dX2_aware_8 ?_
  exact sn_iret C rfl hF dX2_aware_9 (by decide) (by decide) (by first | rfl | (simp [*]; done)) rfl rfl rfl

set_option maxRecDepth 100000 in
set_option maxHeartbeats 4000000 in
theorem c_X2_silence {l : Launch} (hl : l.stackTraces = false) {G : zG} {S : zS} {J : Int64} {E : UInt64} {o : Nat} (hr : zRu o) (h3 : S o 3 < 4096) : nCR l G mX2_silence 1 0 0 [.ref o] S J E (some (zi (zpop (S o 3)))) (zU S o 2 0) J E := by
  refine nCR.of hl (by decide) rfl (Nat.le_of_ble_eq_true rfl) (ls := [some (.ref o)]) rfl (fun X C hF hX => ?_)
  subst hX
  refine sw_aload_0 C dX2_silence_0 ?_
  refine sn_iconst C 0 (by decide) dX2_silence_1 ?_
  refine sn_putZN C (by decide) fX2_18 hr.1 hr.2.1 rfl rfl dX2_silence_2 ?_
  refine sw_aload_0 C dX2_silence_5 ?_
  refine sn_getI C fX2_22 hr.1 hr.2.1 rfl dX2_silence_6 ?_
  refine sn_cS1r C vJ6_bitCount_0f7a4 lX2_38 dX2_silence_9 (Nat.le_of_ble_eq_true rfl) (c_J6_bitCount_0f7a4 hl (by rw [zU_j (by decide)]; exact h3)) (by decide) (by decide) (by decide) ?_
  exact sn_iret C rfl hF dX2_silence_12 (by decide) (by decide) (by rw [zU_j (by decide)]) rfl rfl rfl

set_option maxRecDepth 100000 in
set_option maxHeartbeats 4000000 in
theorem c_X2_revive {l : Launch} (hl : l.stackTraces = false) {G : zG} {S : zS} {J : Int64} {E : UInt64} {o : Nat} (hr : zRu o) {f : Nat} : nCR l G mX2_revive 0 0 0 [.ref o, zi f] S J E (some (zi (S o 1))) (zU (zU S o 2 1) o 1 f) J E := by
  refine nCR.of hl (by decide) rfl (Nat.le_of_ble_eq_true rfl) (ls := [some (.ref o), some (zi f), none]) rfl (fun X C hF hX => ?_)
  subst hX
  refine sw_aload_0 C dX2_revive_0 ?_
  refine sn_getI C fX2_15 hr.1 hr.2.1 rfl dX2_revive_1 ?_
  refine sw_istore_2 C rfl dX2_revive_4 ?_
  refine sw_aload_0 C dX2_revive_5 ?_
  refine sn_iconst C 1 (by decide) dX2_revive_6 ?_
  refine sn_putZN C (by decide) fX2_18 hr.1 hr.2.1 rfl rfl dX2_revive_7 ?_
  refine sw_aload_0 C dX2_revive_10 ?_
  refine sw_iload_1 C dX2_revive_11 ?_
  refine sn_putI C fX2_15 hr.1 hr.2.1 rfl rfl dX2_revive_12 ?_
  refine sw_iload_2 C dX2_revive_15 ?_
  exact sn_iret C rfl hF dX2_revive_16 (by decide) (by decide) (by first | rfl | (simp [*]; done)) rfl rfl rfl

set_option maxRecDepth 100000 in
set_option maxHeartbeats 4000000 in
theorem c_X2_weaken {l : Launch} (hl : l.stackTraces = false) {G : zG} {S : zS} {J : Int64} {E : UInt64} {o : Nat} (hr : zRu o) (h1 : S o 1 < 2 ^ 31) : nCR l G mX2_weaken 0 0 0 [.ref o] S J E none (zU S o 1 (S o 1 - 1)) J E := by
  refine nCR.of hl (by decide) rfl (Nat.le_of_ble_eq_true rfl) (ls := [some (.ref o)]) rfl (fun X C hF hX => ?_)
  subst hX
  refine sw_aload_0 C dX2_weaken_0 ?_
  refine sn_iconst C 0 (by decide) dX2_weaken_1 ?_
  refine sw_aload_0 C dX2_weaken_2 ?_
  refine sn_getI C fX2_15 hr.1 hr.2.1 rfl dX2_weaken_3 ?_
  refine sn_iconst C 1 (by decide) dX2_weaken_6 ?_
  refine sw_isub C dX2_weaken_7 ?_
  refine sn_max C kMaxX2 (nI_max0 h1) (by decide) (by decide) (Nat.le_of_ble_eq_true rfl) dX2_weaken_8 ?_
  refine sn_putI C fX2_15 hr.1 hr.2.1 rfl rfl dX2_weaken_11 ?_
  exact sn_vret C rfl hF dX2_weaken_14 (by decide) (by decide) rfl rfl rfl

set_option maxRecDepth 100000 in
set_option maxHeartbeats 4000000 in
theorem c_X2_signOf {l : Launch} (hl : l.stackTraces = false) {G : zG} {S : zS} {J : Int64} {E : UInt64} {o : Nat} (hr : zRu o) {e : Nat} (he : e < 12) : nCR l G mX2_signOf 1 0 0 [.ref o, zi e] S J E (some (zi (if (S o 3).testBit e then 43 else if (S o 4).testBit e then 45 else 46))) S J E := by
  refine nCR.of hl (by decide) rfl (Nat.le_of_ble_eq_true rfl) (ls := [some (.ref o), some (zi e)]) rfl (fun X C hF hX => ?_)
  subst hX
  refine sw_aload_0 C dX2_signOf_0 ?_
  refine sn_getI C fX2_22 hr.1 hr.2.1 rfl dX2_signOf_1 ?_
  refine sw_iload_1 C dX2_signOf_4 ?_
  refine sn_cS2r C vX5_contains lX2_50 dX2_signOf_5 (Nat.le_of_ble_eq_true rfl) (c_X5_contains hl (by omega)) (by decide) (by decide) (by decide) ?_
  refine sn_if_eqB C 14 dX2_signOf_8 (by decide) (fun c8 => ?_) (fun c8 => ?_)
  · refine sw_aload_0 C dX2_signOf_14 ?_
    refine sn_getI C fX2_25 hr.1 hr.2.1 rfl dX2_signOf_15 ?_
    refine sw_iload_1 C dX2_signOf_18 ?_
    refine sn_cS2r C vX5_contains lX2_50 dX2_signOf_19 (Nat.le_of_ble_eq_true rfl) (c_X5_contains hl (by omega)) (by decide) (by decide) (by decide) ?_
    refine sn_if_eqB C 30 dX2_signOf_22 (by decide) (fun c22 => ?_) (fun c22 => ?_)
    · refine sn_bipush C 46 (by decide) dX2_signOf_30 ?_
      exact sn_cret C (by omega) rfl hF dX2_signOf_32 (by decide) (by decide) (by rw [c8, c22]; rfl) rfl rfl rfl
    · refine sn_bipush C 45 (by decide) dX2_signOf_25 ?_
      refine sw_goto C 32 dX2_signOf_27 (by decide) ?_
      exact sn_cret C (by omega) rfl hF dX2_signOf_32 (by decide) (by decide) (by rw [c8, c22]; rfl) rfl rfl rfl
  · refine sn_bipush C 43 (by decide) dX2_signOf_11 ?_
    exact sn_cret C (by omega) rfl hF dX2_signOf_13 (by decide) (by decide) (by rw [c8]; rfl) rfl rfl rfl
