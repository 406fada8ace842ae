set_option maxRecDepth 100000 in
set_option maxHeartbeats 4000000 in
theorem c1_X6_ends {l : Launch} (hl : l.stackTraces = false) {G : zG} {S : zS} {J : Int64} {E : UInt64} {x c : Nat} (h0 : S 12 0 = 0) (hc : S 12 1 = c) (hc8 : c < 8) : nCR l G mX6_ends 2 0 0 [.ref 12, zi x] S J E (some (zi x)) (zU (zSeg S c 109) 12 1 (c + 1)) J E := by
  refine nCR.of hl (by decide) rfl (Nat.le_of_ble_eq_true rfl) (ls := [some (.ref 12), some (zi x), none]) rfl (fun X C hF hX => ?_)
  subst hX
  refine sw_aload_0 C dX6_ends_0 ?_
  refine sn_getI C fX6_47 rfl (by decide) rfl dX6_ends_1 ?_
  refine sn_if_eq C 20 (by omega) dX6_ends_4 (by decide) (fun c4 => ?_) (fun c4 => ?_)
  · refine sw_aload_0 C dX6_ends_20 ?_
    refine sn_getIe C (c) hc fX6_54 rfl (by decide) rfl dX6_ends_21 ?_
    refine sn_bipush C 8 (by decide) dX6_ends_24 ?_
    refine sn_icmp_ne C 69 (by omega) (by decide) dX6_ends_26 (by decide) (fun c26 => ?_) (fun c26 => ?_)
    · refine sn_iconst C 0 (by decide) dX6_ends_69 ?_
      refine sw_istore_2 C rfl dX6_ends_70 ?_
      have L71 : ∀ (kM i : Nat) , i ≤ 109 → 109 - i < kM → SN G X 0 0 71 [some (.ref 12), some (zi x), some (zi i)] [] (zSeg S c i) J E := by
        intro kM
        induction kM with
        | zero => intro i  _  hkM; exact absurd hkM (by omega)
        | succ kM ih71 =>
          intro i  hi  hkM
          refine sw_iload_2 C dX6_ends_71 ?_
          refine sn_bipush C 109 (by decide) dX6_ends_72 ?_
          refine sn_icmp_ge C 103 (by omega) (by omega) dX6_ends_74 (by decide) (fun c74 => ?_) (fun c74 => ?_)
          · refine sw_aload_0 C dX6_ends_103 ?_
            refine sw_dup C rfl dX6_ends_104 ?_
            refine sn_getIe C (c) (by rw [zSeg_o (by decide)]; exact hc) fX6_54 rfl (by decide) rfl dX6_ends_105 ?_
            refine sn_iconst C 1 (by decide) dX6_ends_108 ?_
            refine sn_iadd C dX6_ends_109 ?_
            refine sn_putI C fX6_54 rfl (by decide) rfl rfl dX6_ends_110 ?_
            refine sw_iload_1 C dX6_ends_113 ?_
            exact sn_iret C rfl hF dX6_ends_114 (by decide) (by decide) (by rfl) (by rw [show i = 109 from by omega]) rfl rfl
          · refine sw_aload_0 C dX6_ends_77 ?_
            refine sw_getR C (o' := 17) fX6_29 rfl (by decide) rfl rfl (by decide) dX6_ends_78 ?_
            refine sw_aload_0 C dX6_ends_81 ?_
            refine sn_getIe C (c) (by rw [zSeg_o (by decide)]; exact hc) fX6_54 rfl (by decide) rfl dX6_ends_82 ?_
            refine sn_bipush C 109 (by decide) dX6_ends_85 ?_
            refine sn_imul C dX6_ends_87 ?_
            refine sw_iload_2 C dX6_ends_88 ?_
            refine sn_iadd C dX6_ends_89 ?_
            refine sw_aload_0 C dX6_ends_90 ?_
            refine sw_getR C (o' := 14) fX6_20 rfl (by decide) rfl rfl (by decide) dX6_ends_91 ?_
            refine sw_iload_2 C dX6_ends_94 ?_
            refine sn_iald C rfl (by decide) (by omega) (by decide) dX6_ends_95 ?_
            refine sn_iast C rfl (by decide) (by omega) (by decide) dX6_ends_96 ?_
            refine sn_iinc_2 C rfl dX6_ends_97 ?_
            refine sw_goto C 71 dX6_ends_100 (by decide) ?_
            rw [zSeg_step]; exact ih71 (i + 1)  (by omega)  (by omega)
      have hb := L71 _ 0 (by omega) (Nat.lt_succ_self _)
      rw [zSeg_0] at hb
      exact hb
    · omega
  · omega

set_option maxRecDepth 100000 in
set_option maxHeartbeats 4000000 in
theorem c2_X6_ends {l : Launch} (hl : l.stackTraces = false) {G : zG} {S : zS} {J : Int64} {E : UInt64} {x : Nat} (h0 : S 12 0 = 0) (hc : S 12 1 = 8) : nCR l G mX6_ends 2 0 0 [.ref 12, zi x] S J E (some (zi x)) (zU (zSeg (zU (zSf S 763) 12 1 7) 7 109) 12 1 8) J E := by
  refine nCR.of hl (by decide) rfl (Nat.le_of_ble_eq_true rfl) (ls := [some (.ref 12), some (zi x), none]) rfl (fun X C hF hX => ?_)
  subst hX
  refine sw_aload_0 C dX6_ends_0 ?_
  refine sn_getI C fX6_47 rfl (by decide) rfl dX6_ends_1 ?_
  refine sn_if_eq C 20 (by omega) dX6_ends_4 (by decide) (fun c4 => ?_) (fun c4 => ?_)
  · refine sw_aload_0 C dX6_ends_20 ?_
    refine sn_getIe C (8) hc fX6_54 rfl (by decide) rfl dX6_ends_21 ?_
    refine sn_bipush C 8 (by decide) dX6_ends_24 ?_
    refine sn_icmp_ne C 69 (by decide) (by decide) dX6_ends_26 (by decide) (fun c26 => ?_) (fun c26 => ?_)
    · exact absurd rfl c26
    · refine sn_iconst C 0 (by decide) dX6_ends_29 ?_
      refine sw_istore_2 C rfl dX6_ends_30 ?_
      have L31 : ∀ (kM i : Nat) , i ≤ 763 → 763 - i < kM → SN G X 0 0 31 [some (.ref 12), some (zi x), some (zi i)] [] (zSf S i) J E := by
        intro kM
        induction kM with
        | zero => intro i  _  hkM; exact absurd hkM (by omega)
        | succ kM ih31 =>
          intro i  hi  hkM
          refine sw_iload_2 C dX6_ends_31 ?_
          refine sn_sipush C 763 (by decide) dX6_ends_32 ?_
          refine sn_icmp_ge C 59 (by omega) (by omega) dX6_ends_35 (by decide) (fun c35 => ?_) (fun c35 => ?_)
          · refine sw_aload_0 C dX6_ends_59 ?_
            refine sw_dup C rfl dX6_ends_60 ?_
            refine sn_getIe C (8) (by rw [zSf_o (by decide)]; exact hc) fX6_54 rfl (by decide) rfl dX6_ends_61 ?_
            refine sn_iconst C 1 (by decide) dX6_ends_64 ?_
            refine sn_isub C (by omega) dX6_ends_65 ?_
            refine sn_putI C fX6_54 rfl (by decide) rfl rfl dX6_ends_66 ?_
            try rw [show i = 763 from by omega]
            refine sn_iconst C 0 (by decide) dX6_ends_69 ?_
            refine sw_istore_2 C rfl dX6_ends_70 ?_
            have L71 : ∀ (kM i : Nat) , i ≤ 109 → 109 - i < kM → SN G X 0 0 71 [some (.ref 12), some (zi x), some (zi i)] [] (zSeg (zU (zSf S 763) 12 1 7) 7 i) J E := by
              intro kM
              induction kM with
              | zero => intro i  _  hkM; exact absurd hkM (by omega)
              | succ kM ih71 =>
                intro i  hi  hkM
                refine sw_iload_2 C dX6_ends_71 ?_
                refine sn_bipush C 109 (by decide) dX6_ends_72 ?_
                refine sn_icmp_ge C 103 (by omega) (by omega) dX6_ends_74 (by decide) (fun c74 => ?_) (fun c74 => ?_)
                · refine sw_aload_0 C dX6_ends_103 ?_
                  refine sw_dup C rfl dX6_ends_104 ?_
                  refine sn_getIe C (7) (by rw [zSeg_o (by decide)]; exact zU_s) fX6_54 rfl (by decide) rfl dX6_ends_105 ?_
                  refine sn_iconst C 1 (by decide) dX6_ends_108 ?_
                  refine sn_iadd C dX6_ends_109 ?_
                  refine sn_putI C fX6_54 rfl (by decide) rfl rfl dX6_ends_110 ?_
                  refine sw_iload_1 C dX6_ends_113 ?_
                  exact sn_iret C rfl hF dX6_ends_114 (by decide) (by decide) (by rfl) (by rw [show i = 109 from by omega]) rfl rfl
                · refine sw_aload_0 C dX6_ends_77 ?_
                  refine sw_getR C (o' := 17) fX6_29 rfl (by decide) rfl rfl (by decide) dX6_ends_78 ?_
                  refine sw_aload_0 C dX6_ends_81 ?_
                  refine sn_getIe C (7) (by rw [zSeg_o (by decide)]; exact zU_s) fX6_54 rfl (by decide) rfl dX6_ends_82 ?_
                  refine sn_bipush C 109 (by decide) dX6_ends_85 ?_
                  refine sn_imul C dX6_ends_87 ?_
                  refine sw_iload_2 C dX6_ends_88 ?_
                  refine sn_iadd C dX6_ends_89 ?_
                  refine sw_aload_0 C dX6_ends_90 ?_
                  refine sw_getR C (o' := 14) fX6_20 rfl (by decide) rfl rfl (by decide) dX6_ends_91 ?_
                  refine sw_iload_2 C dX6_ends_94 ?_
                  refine sn_iald C rfl (by decide) (by omega) (by decide) dX6_ends_95 ?_
                  refine sn_iast C rfl (by decide) (by omega) (by decide) dX6_ends_96 ?_
                  refine sn_iinc_2 C rfl dX6_ends_97 ?_
                  refine sw_goto C 71 dX6_ends_100 (by decide) ?_
                  rw [zSeg_step]; exact ih71 (i + 1)  (by omega)  (by omega)
            have hb := L71 _ 0 (by omega) (Nat.lt_succ_self _)
            rw [zSeg_0] at hb
            exact hb
          · refine sw_aload_0 C dX6_ends_38 ?_
            refine sw_getR C (o' := 17) fX6_29 rfl (by decide) rfl rfl (by decide) dX6_ends_39 ?_
            refine sw_iload_2 C dX6_ends_42 ?_
            refine sw_aload_0 C dX6_ends_43 ?_
            refine sw_getR C (o' := 17) fX6_29 rfl (by decide) rfl rfl (by decide) dX6_ends_44 ?_
            refine sw_iload_2 C dX6_ends_47 ?_
            refine sn_bipush C 109 (by decide) dX6_ends_48 ?_
            refine sn_iadd C dX6_ends_50 ?_
            refine sn_iald C rfl (by decide) (by omega) (by decide) dX6_ends_51 ?_
            refine sn_iast C rfl (by decide) (by omega) (by decide) dX6_ends_52 ?_
            refine sn_iinc_2 C rfl dX6_ends_53 ?_
            refine sw_goto C 31 dX6_ends_56 (by decide) ?_
            rw [zSf_step]; exact ih31 (i + 1)  (by omega)  (by omega)
      have hb := L31 _ 0 (by omega) (Nat.lt_succ_self _)
      rw [zSf_0] at hb
      exact hb
  · omega

set_option maxRecDepth 100000 in
set_option maxHeartbeats 4000000 in
theorem c3_X6_ends {l : Launch} (hl : l.stackTraces = false) {G : zG} {S : zS} {J : Int64} {E : UInt64} {x : Nat} (hb : S 12 0 < 2 ^ 32) (h0 : ¬ S 12 0 = 0) : nCR l G mX6_ends 2 0 0 [.ref 12, zi x] S J E (some (zi 0)) (zCp S 14 13 109) J E := by
  refine nCR.of hl (by decide) rfl (Nat.le_of_ble_eq_true rfl) (ls := [some (.ref 12), some (zi x), none]) rfl (fun X C hF hX => ?_)
  subst hX
  refine sw_aload_0 C dX6_ends_0 ?_
  refine sn_getI C fX6_47 rfl (by decide) rfl dX6_ends_1 ?_
  refine sn_if_eq C 20 hb dX6_ends_4 (by decide) (fun c4 => ?_) (fun c4 => ?_)
  · omega
  · refine sw_aload_0 C dX6_ends_7 ?_
    refine sw_getR C (o' := 13) fX6_16 rfl (by decide) rfl rfl (by decide) dX6_ends_8 ?_
    refine sw_aload_0 C dX6_ends_11 ?_
    refine sw_getR C (o' := 14) fX6_20 rfl (by decide) rfl rfl (by decide) dX6_ends_12 ?_
    refine sn_cS2v C vX6_lays lX6_50 dX6_ends_15 (Nat.le_of_ble_eq_true rfl) (c_X6_lays hl rfl (by decide) rfl (by decide) (by decide)) (by decide) (by decide) (by decide) ?_
    refine sn_iconst C 0 (by decide) dX6_ends_18 ?_
    exact sn_iret C rfl hF dX6_ends_19 (by decide) (by decide) (by first | rfl | (simp [*]; done)) rfl rfl rfl

set_option maxRecDepth 100000 in
theorem c_X6_ends {l : Launch} (hl : l.stackTraces = false) {G : zG} {S : zS} {J : Int64} {E : UInt64} {x : Nat} (hb : S 12 0 < 2 ^ 32) (hc8 : S 12 1 ≤ 8) : nCR l G mX6_ends 2 0 0 [.ref 12, zi x] S J E (some (zi (mEnd S x).1)) (mEnd S x).2 J E := by
  by_cases h0 : S 12 0 = 0
  · by_cases h8 : S 12 1 = 8
    · have e : mEnd S x = (x, zU (zSeg (zU (zSf S 763) 12 1 7) 7 109) 12 1 8) := by unfold mEnd mPush; rw [if_pos h0, if_pos h8, zU_s]
      rw [e]; exact c2_X6_ends hl h0 h8
    · have e : mEnd S x = (x, zU (zSeg S (S 12 1) 109) 12 1 (S 12 1 + 1)) := by unfold mEnd mPush; rw [if_pos h0, if_neg h8]
      rw [e]; exact c1_X6_ends hl h0 rfl (by omega)
  · have e : mEnd S x = (0, zCp S 14 13 109) := by unfold mEnd; rw [if_neg h0]
    rw [e]; exact c3_X6_ends hl hb h0
