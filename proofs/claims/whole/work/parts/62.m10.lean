/-! the model's reader: here, isWrong, isLeft over a base -/
def mRd (S : zS) (h w : Nat) (L : Nat → Nat) : zS := fun a b => if a = 12 ∧ b = 16 then h else if a = 12 ∧ b = 19 then w else if a = 20 ∧ b < 9 then L b else S a b
theorem mRd_16 {S : zS} {h w v : Nat} {L : Nat → Nat} : zU (mRd S h w L) 12 16 v = mRd S v w L := by
  funext a b; unfold zU mRd
  by_cases h1 : a = 12 ∧ b = 16
  · rw [if_pos h1, if_pos h1]
  · rw [if_neg h1, if_neg h1, if_neg h1]
theorem mRd_19 {S : zS} {h w v : Nat} {L : Nat → Nat} : zU (mRd S h w L) 12 19 v = mRd S h v L := by
  funext a b; unfold zU mRd
  by_cases h1 : a = 12 ∧ b = 19
  · rw [if_pos h1, if_neg (by omega), if_pos h1]
  · rw [if_neg h1]
    by_cases h2 : a = 12 ∧ b = 16
    · rw [if_pos h2, if_pos h2]
    · rw [if_neg h2, if_neg h2, if_neg h1, if_neg h1]
def mUpd (L : Nat → Nat) (i x : Nat) : Nat → Nat := fun b => if b = i then x else L b
theorem mRd_20 {S : zS} {h w i x : Nat} {L : Nat → Nat} (hi : i < 9) : zU (mRd S h w L) 20 i x = mRd S h w (mUpd L i x) := by
  funext a b; unfold zU mRd mUpd
  by_cases h1 : a = 20 ∧ b = i
  · rw [if_pos h1, if_neg (by omega), if_neg (by omega), if_pos (by omega), if_pos h1.2]
  · rw [if_neg h1]
    by_cases h2 : a = 12 ∧ b = 16
    · rw [if_pos h2, if_pos h2]
    · rw [if_neg h2, if_neg h2]
      by_cases h3 : a = 12 ∧ b = 19
      · rw [if_pos h3, if_pos h3]
      · rw [if_neg h3, if_neg h3]
        by_cases h4 : a = 20 ∧ b < 9
        · rw [if_pos h4, if_pos h4, if_neg (by omega)]
        · rw [if_neg h4, if_neg h4]
theorem mRd_congr {S : zS} {h w : Nat} {L L' : Nat → Nat} (hL : ∀ b, b < 9 → L b = L' b) : mRd S h w L = mRd S h w L' := by
  funext a b; unfold mRd
  by_cases h4 : a = 20 ∧ b < 9
  · rw [if_pos h4, if_pos h4, hL b h4.2]
  · rw [if_neg h4, if_neg h4]
theorem mRd_at {S : zS} {h w a b : Nat} {L : Nat → Nat} (h1 : a ≠ 12) (h2 : a ≠ 20) : mRd S h w L a b = S a b := by
  unfold mRd; rw [if_neg (by omega), if_neg (by omega), if_neg (by omega)]
theorem mRd_self {S : zS} : mRd S (S 12 16) (S 12 19) (S 20) = S := by
  funext a b; unfold mRd
  split
  · rename_i h; rw [h.1, h.2]
  · split
    · rename_i h; rw [h.1, h.2]
    · split
      · rename_i h; rw [h.1]
      · rfl
theorem mRd_rd {S : zS} {h w h' w' : Nat} {L L' : Nat → Nat} : mRd (mRd S h w L) h' w' L' = mRd S h' w' L' := by
  funext a b; unfold mRd
  (repeat' split) <;> first | rfl | (exfalso; omega)
theorem mRd_w {S : zS} {h w : Nat} {L : Nat → Nat} : mRd S h w L 12 19 = w := rfl
/-- the sign at a place, or -1 behind the end -/
def mS (S : zS) (q : Nat) : Nat := if q < S 12 17 then S 18 q else 4294967295
def mTx (S : zS) : Prop := S 12 17 ≤ 60 ∧ ∀ k, k < 60 → S 18 k < 65536
theorem mS_lt {S : zS} (ht : mTx S) (q : Nat) : mS S q < 2 ^ 32 := by
  unfold mS; split
  · have := ht.2 q (by have := ht.1; omega); omega
  · decide
def mDg (sg : Nat → Nat) : Nat → Nat → Nat → Nat × Nat
  | 0, p, v => (p, v)
  | k + 1, p, v => if 48 ≤ sg p ∧ sg p ≤ 57 then mDg sg k (p + 1) (v * 10 + (sg p - 48)) else (p, v)
theorem mDg_ge {sg : Nat → Nat} : ∀ (k p v : Nat), p ≤ (mDg sg k p v).1 ∧ (mDg sg k p v).1 ≤ p + k := by
  intro k
  induction k with
  | zero => intro p v; exact ⟨Nat.le_refl _, Nat.le_refl _⟩
  | succ k ih =>
    intro p v
    rw [mDg]; split
    · have := ih (p + 1) (v * 10 + (sg p - 48)); omega
    · constructor <;> dsimp only <;> omega
theorem mDg_len {S : zS} : ∀ (k p v : Nat), p ≤ S 12 17 → (mDg (mS S) k p v).1 ≤ S 12 17 := by
  intro k
  induction k with
  | zero => intro p v h; exact h
  | succ k ih =>
    intro p v hp
    rw [mDg]; split
    · rename_i h
      refine ih _ _ ?_
      unfold mS at h
      by_cases hl : p < S 12 17
      · exact hl
      · rw [if_neg hl] at h; omega
    · exact hp
theorem mDg_val {sg : Nat → Nat} : ∀ (k p v : Nat), (mDg sg k p v).2 < (v + 1) * 10 ^ k := by
  intro k
  induction k with
  | zero => intro p v; simp [mDg]
  | succ k ih =>
    intro p v
    rw [mDg]
    split
    · rename_i h
      have h2 := ih (p + 1) (v * 10 + (sg p - 48))
      refine Nat.lt_of_lt_of_le h2 ?_
      rw [Nat.pow_succ, Nat.mul_comm (10 ^ k) 10, ← Nat.mul_assoc]
      exact Nat.mul_le_mul_right _ (by omega)
    · have h1 : 1 ≤ 10 ^ (k + 1) := Nat.one_le_pow _ _ (by decide)
      calc v < (v + 1) * 1 := by omega
        _ ≤ (v + 1) * 10 ^ (k + 1) := Nat.mul_le_mul_left _ h1
/-- a space and a number: value, place, wrong -/
def mBh (sg : Nat → Nat) (k h : Nat) : Nat × Nat × Nat := if sg h = 32 then ((mDg sg k (h + 1) 0).2, (mDg sg k (h + 1) 0).1, if (mDg sg k (h + 1) 0).1 = h + 1 then 1 else 0) else (0, h, 1)

set_option maxRecDepth 100000 in
set_option maxHeartbeats 4000000 in
theorem c_X6_sign {l : Launch} (hl : l.stackTraces = false) {G : zG} {S : zS} {J : Int64} {E : UInt64} (htx : mTx S) {h : Nat} (hh : h ≤ S 12 17) {L : Nat → Nat} {w : Nat} : nCR l G mX6_sign 0 0 0 [.ref 12] (mRd S h w L) J E (some (zi (mS S h))) (mRd S h w L) J E := by
  refine nCR.of hl (by decide) rfl (Nat.le_of_ble_eq_true rfl) (ls := [some (.ref 12)]) rfl (fun X C hF hX => ?_)
  subst hX
  refine sw_aload_0 C dX6_sign_0 ?_
  refine sn_getIe C (h) rfl fX6_179 rfl (by decide) rfl dX6_sign_1 ?_
  refine sw_aload_0 C dX6_sign_4 ?_
  refine sn_getIe C (S 12 17) rfl fX6_182 rfl (by decide) rfl dX6_sign_5 ?_
  refine sn_icmp_ge C 23 (by have := htx.1; omega) (by have := htx.1; omega) dX6_sign_8 (by decide) (fun c8 => ?_) (fun c8 => ?_)
  · refine sn_iconst C 4294967295 (by decide) dX6_sign_23 ?_
    exact sn_iret C rfl hF dX6_sign_24 (by decide) (by decide) (by unfold mS; first | (rw [if_pos (by omega)]; done) | (rw [if_neg (by omega)]; done)) rfl rfl rfl
  · refine sw_aload_0 C dX6_sign_11 ?_
    refine sw_getR C (o' := 18) fX6_32 rfl (by decide) rfl rfl (by decide) dX6_sign_12 ?_
    refine sw_aload_0 C dX6_sign_15 ?_
    refine sn_getIe C (h) rfl fX6_179 rfl (by decide) rfl dX6_sign_16 ?_
    refine sn_ialde C (S 18 h) (mRd_at (by decide) (by decide)) rfl (by decide) (by have := htx.1; omega) (by decide) dX6_sign_19 ?_
    refine sw_goto C 24 dX6_sign_20 (by decide) ?_
    exact sn_iret C rfl hF dX6_sign_24 (by decide) (by decide) (by unfold mS; first | (rw [if_pos (by omega)]; done) | (rw [if_neg (by omega)]; done)) rfl rfl rfl

set_option maxRecDepth 100000 in
set_option maxHeartbeats 4000000 in
theorem c_X6_mark {l : Launch} (hl : l.stackTraces = false) {G : zG} {S : zS} {J : Int64} {E : UInt64} (htx : mTx S) {h : Nat} (hh : h ≤ S 12 17) {L : Nat → Nat} {c : Nat} (hc : c < 2 ^ 32) : nCR l G mX6_mark 1 0 0 [.ref 12, zi c] (mRd S h 0 L) J E none (if mS S h = c then mRd S (h + 1) 0 L else mRd S h 1 L) J E := by
  refine nCR.of hl (by decide) rfl (Nat.le_of_ble_eq_true rfl) (ls := [some (.ref 12), some (zi c)]) rfl (fun X C hF hX => ?_)
  subst hX
  refine sw_aload_0 C dX6_mark_0 ?_
  refine sn_getIe C (0) rfl fX6_185 rfl (by decide) rfl dX6_mark_1 ?_
  refine sn_if_eq C 8 (by decide) dX6_mark_4 (by decide) (fun c4 => ?_) (fun c4 => ?_)
  · refine sw_aload_0 C dX6_mark_8 ?_
    refine sw_aload_0 C dX6_mark_9 ?_
    refine sn_cV0r C vX6_sign lX6_189 rfl (by decide) rfl rfl dX6_mark_10 (Nat.le_of_ble_eq_true rfl) (c_X6_sign hl htx hh) (by decide) (by decide) (by decide) ?_
    refine sw_iload_1 C dX6_mark_13 ?_
    refine sn_icmp_eq C 21 (mS_lt htx h) hc dX6_mark_14 (by decide) (fun c14 => ?_) (fun c14 => ?_)
    · refine sn_iconst C 0 (by decide) dX6_mark_21 ?_
      refine sn_putZN C (by decide) fX6_185 rfl (by decide) rfl rfl dX6_mark_22 ?_
      rw [mRd_19]
      refine sw_aload_0 C dX6_mark_25 ?_
      refine sw_dup C rfl dX6_mark_26 ?_
      refine sn_getIe C (h) rfl fX6_179 rfl (by decide) rfl dX6_mark_27 ?_
      refine sw_aload_0 C dX6_mark_30 ?_
      refine sn_getIe C (_) mRd_w fX6_185 rfl (by decide) rfl dX6_mark_31 ?_
      refine sn_if_eq C 41 (by decide) dX6_mark_34 (by decide) (fun c34 => ?_) (fun c34 => ?_)
      · refine sn_iconst C 1 (by decide) dX6_mark_41 ?_
        refine sn_iadd C dX6_mark_42 ?_
        refine sn_putI C fX6_179 rfl (by decide) rfl rfl dX6_mark_43 ?_
        exact sn_vret C rfl hF dX6_mark_46 (by decide) (by decide) (by rw [mRd_16]; first | (exfalso; omega) | (rw [if_pos c14]; try rfl) | (rw [if_neg c14]; try rfl)) rfl rfl
      · refine sn_iconst C 0 (by decide) dX6_mark_37 ?_
        refine sw_goto C 42 dX6_mark_38 (by decide) ?_
        refine sn_iadd C dX6_mark_42 ?_
        refine sn_putI C fX6_179 rfl (by decide) rfl rfl dX6_mark_43 ?_
        exact sn_vret C rfl hF dX6_mark_46 (by decide) (by decide) (by rw [mRd_16]; first | (exfalso; omega) | (rw [if_pos c14]; try rfl) | (rw [if_neg c14]; try rfl)) rfl rfl
    · refine sn_iconst C 1 (by decide) dX6_mark_17 ?_
      refine sw_goto C 22 dX6_mark_18 (by decide) ?_
      refine sn_putZN C (by decide) fX6_185 rfl (by decide) rfl rfl dX6_mark_22 ?_
      rw [mRd_19]
      refine sw_aload_0 C dX6_mark_25 ?_
      refine sw_dup C rfl dX6_mark_26 ?_
      refine sn_getIe C (h) rfl fX6_179 rfl (by decide) rfl dX6_mark_27 ?_
      refine sw_aload_0 C dX6_mark_30 ?_
      refine sn_getIe C (_) mRd_w fX6_185 rfl (by decide) rfl dX6_mark_31 ?_
      refine sn_if_eq C 41 (by decide) dX6_mark_34 (by decide) (fun c34 => ?_) (fun c34 => ?_)
      · refine sn_iconst C 1 (by decide) dX6_mark_41 ?_
        refine sn_iadd C dX6_mark_42 ?_
        refine sn_putI C fX6_179 rfl (by decide) rfl rfl dX6_mark_43 ?_
        exact sn_vret C rfl hF dX6_mark_46 (by decide) (by decide) (by rw [mRd_16]; first | (exfalso; omega) | (rw [if_pos c14]; try rfl) | (rw [if_neg c14]; try rfl)) rfl rfl
      · refine sn_iconst C 0 (by decide) dX6_mark_37 ?_
        refine sw_goto C 42 dX6_mark_38 (by decide) ?_
        refine sn_iadd C dX6_mark_42 ?_
        refine sn_putI C fX6_179 rfl (by decide) rfl rfl dX6_mark_43 ?_
        exact sn_vret C rfl hF dX6_mark_46 (by decide) (by decide) (by rw [mRd_16]; first | (exfalso; omega) | (rw [if_pos c14]; try rfl) | (rw [if_neg c14]; try rfl)) rfl rfl
  · exact absurd rfl c4

set_option maxRecDepth 100000 in
set_option maxHeartbeats 4000000 in
theorem c_X6_digits {l : Launch} (hl : l.stackTraces = false) {G : zG} {S : zS} {J : Int64} {E : UInt64} (htx : mTx S) {h : Nat} (hh : h ≤ S 12 17) {L : Nat → Nat} {k0 : Nat} (hk0 : k0 ≤ 2) : nCR l G mX6_digits 2 0 0 [.ref 12, zi k0] (mRd S h 0 L) J E (some (zi (mDg (mS S) k0 h 0).2)) (mRd S (mDg (mS S) k0 h 0).1 (if (mDg (mS S) k0 h 0).1 = h then 1 else 0) L) J E := by
  refine nCR.of hl (by decide) rfl (Nat.le_of_ble_eq_true rfl) (ls := [some (.ref 12), some (zi k0), none, none]) rfl (fun X C hF hX => ?_)
  subst hX
  refine sn_iconst C 0 (by decide) dX6_digits_0 ?_
  refine sw_istore_2 C rfl dX6_digits_1 ?_
  refine sn_iconst C 0 (by decide) dX6_digits_2 ?_
  refine sw_istore_3 C rfl dX6_digits_3 ?_
  have L4 : ∀ (kM k : Nat) (v : Nat) (p : Nat), k ≤ k0 → (p = h + k) → (p ≤ S 12 17) → (mDg (mS S) (k0 - k) p v = mDg (mS S) k0 h 0) → k0 - k < kM → SN G X 0 0 4 [some (.ref 12), some (zi k0), some (zi v), some (zi k)] [] (mRd S p 0 L) J E := by
    intro kM
    induction kM with
    | zero => intro k v p _ _ _ _ hkM; exact absurd hkM (by omega)
    | succ kM ih4 =>
      intro k v p hk hp hp2 hq hkM
      refine sw_aload_0 C dX6_digits_4 ?_
      refine sn_getIe C (0) rfl fX6_185 rfl (by decide) rfl dX6_digits_5 ?_
      refine sn_if_ne C 59 (by decide) dX6_digits_8 (by decide) (fun c8 => ?_) (fun c8 => ?_)
      · exact absurd rfl c8
      · refine sw_iload_3 C dX6_digits_11 ?_
        refine sw_iload_1 C dX6_digits_12 ?_
        refine sn_icmp_ge C 59 (by omega) (by omega) dX6_digits_13 (by decide) (fun c13 => ?_) (fun c13 => ?_)
        · have hqe : mDg (mS S) k0 h 0 = (p, v) := by
            rw [← hq]
            by_cases h0 : k = k0
            · subst h0; rw [Nat.sub_self, mDg]
            · rw [show k0 - k = k0 - (k + 1) + 1 from by omega, mDg]
              first | (rw [if_neg c27]; done) | (exfalso; omega)
          refine sw_aload_0 C dX6_digits_59 ?_
          refine sw_dup C rfl dX6_digits_60 ?_
          refine sn_getIe C (0) rfl fX6_185 rfl (by decide) rfl dX6_digits_61 ?_
          refine sw_iload_3 C dX6_digits_64 ?_
          refine sn_if_ne C 72 (by omega) dX6_digits_65 (by decide) (fun c65 => ?_) (fun c65 => ?_)
          · refine sn_iconst C 0 (by decide) dX6_digits_72 ?_
            refine sn_ior C dX6_digits_73 ?_
            refine sn_putZN C (by decide) fX6_185 rfl (by decide) rfl rfl dX6_digits_74 ?_
            rw [mRd_19]
            refine sw_iload_2 C dX6_digits_77 ?_
            exact sn_iret C rfl hF dX6_digits_78 (by decide) (by decide) (by rw [hqe]) (by rw [hqe]; dsimp only; first | (rw [if_pos (by omega)]; rfl) | (rw [if_neg (by omega)]; rfl)) rfl rfl
          · refine sn_iconst C 1 (by decide) dX6_digits_68 ?_
            refine sw_goto C 73 dX6_digits_69 (by decide) ?_
            refine sn_ior C dX6_digits_73 ?_
            refine sn_putZN C (by decide) fX6_185 rfl (by decide) rfl rfl dX6_digits_74 ?_
            rw [mRd_19]
            refine sw_iload_2 C dX6_digits_77 ?_
            exact sn_iret C rfl hF dX6_digits_78 (by decide) (by decide) (by rw [hqe]) (by rw [hqe]; dsimp only; first | (rw [if_pos (by omega)]; rfl) | (rw [if_neg (by omega)]; rfl)) rfl rfl
        · refine sw_aload_0 C dX6_digits_16 ?_
          refine sn_cV0r C vX6_sign lX6_189 rfl (by decide) rfl rfl dX6_digits_17 (Nat.le_of_ble_eq_true rfl) (c_X6_sign hl htx hp2) (by decide) (by decide) (by decide) ?_
          refine sn_bipush C 48 (by decide) dX6_digits_20 ?_
          refine sn_bipush C 57 (by decide) dX6_digits_22 ?_
          refine sn_cS3r C vX6_isIn lX6_57 dX6_digits_24 (Nat.le_of_ble_eq_true rfl) (c_X6_isIn hl) (by decide) (by decide) (by decide) ?_
          refine sn_if_eqB C 59 dX6_digits_27 (by decide) (fun c27 => ?_) (fun c27 => ?_)
          · have c27 : ¬ (48 ≤ mS S p ∧ mS S p ≤ 57) := by
              intro h
              rw [← zInC (mS_lt htx p) (by decide) (by decide)] at h
              exact of_decide_eq_false c27 h
            have hqe : mDg (mS S) k0 h 0 = (p, v) := by
              rw [← hq]
              by_cases h0 : k = k0
              · subst h0; rw [Nat.sub_self, mDg]
              · rw [show k0 - k = k0 - (k + 1) + 1 from by omega, mDg]
                first | (rw [if_neg c27]; done) | (exfalso; omega)
            refine sw_aload_0 C dX6_digits_59 ?_
            refine sw_dup C rfl dX6_digits_60 ?_
            refine sn_getIe C (0) rfl fX6_185 rfl (by decide) rfl dX6_digits_61 ?_
            refine sw_iload_3 C dX6_digits_64 ?_
            refine sn_if_ne C 72 (by omega) dX6_digits_65 (by decide) (fun c65 => ?_) (fun c65 => ?_)
            · refine sn_iconst C 0 (by decide) dX6_digits_72 ?_
              refine sn_ior C dX6_digits_73 ?_
              refine sn_putZN C (by decide) fX6_185 rfl (by decide) rfl rfl dX6_digits_74 ?_
              rw [mRd_19]
              refine sw_iload_2 C dX6_digits_77 ?_
              exact sn_iret C rfl hF dX6_digits_78 (by decide) (by decide) (by rw [hqe]) (by rw [hqe]; dsimp only; first | (rw [if_pos (by omega)]; rfl) | (rw [if_neg (by omega)]; rfl)) rfl rfl
            · refine sn_iconst C 1 (by decide) dX6_digits_68 ?_
              refine sw_goto C 73 dX6_digits_69 (by decide) ?_
              refine sn_ior C dX6_digits_73 ?_
              refine sn_putZN C (by decide) fX6_185 rfl (by decide) rfl rfl dX6_digits_74 ?_
              rw [mRd_19]
              refine sw_iload_2 C dX6_digits_77 ?_
              exact sn_iret C rfl hF dX6_digits_78 (by decide) (by decide) (by rw [hqe]) (by rw [hqe]; dsimp only; first | (rw [if_pos (by omega)]; rfl) | (rw [if_neg (by omega)]; rfl)) rfl rfl
          · have c27 : 48 ≤ mS S p ∧ mS S p ≤ 57 := (zInC (mS_lt htx p) (by decide) (by decide)).mp (of_decide_eq_true c27)
            refine sn_bipush C 10 (by decide) dX6_digits_30 ?_
            refine sw_iload_2 C dX6_digits_32 ?_
            refine sn_imul C dX6_digits_33 ?_
            refine sw_aload_0 C dX6_digits_34 ?_
            refine sn_cV0r C vX6_sign lX6_189 rfl (by decide) rfl rfl dX6_digits_35 (Nat.le_of_ble_eq_true rfl) (c_X6_sign hl htx hp2) (by decide) (by decide) (by decide) ?_
            refine sn_iadd C dX6_digits_38 ?_
            refine sn_bipush C 48 (by decide) dX6_digits_39 ?_
            refine sn_isub C (by omega) dX6_digits_41 ?_
            refine sw_istore_2 C rfl dX6_digits_42 ?_
            refine sw_aload_0 C dX6_digits_43 ?_
            refine sw_dup C rfl dX6_digits_44 ?_
            refine sn_getIe C (p) rfl fX6_179 rfl (by decide) rfl dX6_digits_45 ?_
            refine sn_iconst C 1 (by decide) dX6_digits_48 ?_
            refine sn_iadd C dX6_digits_49 ?_
            refine sn_putI C fX6_179 rfl (by decide) rfl rfl dX6_digits_50 ?_
            refine sn_iinc_3 C rfl dX6_digits_53 ?_
            refine sw_goto C 4 dX6_digits_56 (by decide) ?_
            rw [mRd_16]
            have hlt : p + 1 ≤ S 12 17 := by
              apply Classical.byContradiction
              intro hcon
              have e9 : mS S p = 4294967295 := by unfold mS; rw [if_neg (by omega)]
              rw [e9] at c27; omega
            have hq2 : mDg (mS S) (k0 - (k + 1)) (p + 1) (10 * v + mS S p - 48) = mDg (mS S) k0 h 0 := by
              rw [show k0 - k = k0 - (k + 1) + 1 from by omega, mDg, if_pos c27] at hq
              rw [show 10 * v + mS S p - 48 = v * 10 + (mS S p - 48) from by omega]; exact hq
            exact ih4 (k + 1) _ _ (by omega) (by omega) hlt hq2 (by omega)
  exact L4 _ 0 _ _ (by omega) rfl hh rfl (Nat.lt_succ_self _)

set_option maxRecDepth 100000 in
set_option maxHeartbeats 4000000 in
theorem c1_X6_behind {l : Launch} (hl : l.stackTraces = false) {G : zG} {S : zS} {J : Int64} {E : UInt64} (htx : mTx S) {h : Nat} (hh : h ≤ S 12 17) {L : Nat → Nat} {k0 : Nat} (hk0 : k0 ≤ 2) (c0 : mS S h = 32) : nCR l G mX6_behind 3 0 0 [.ref 12, zi k0] (mRd S h 0 L) J E (some (zi (mBh (mS S) k0 h).1)) (mRd S (mBh (mS S) k0 h).2.1 (mBh (mS S) k0 h).2.2 L) J E := by
  refine nCR.of hl (by decide) rfl (Nat.le_of_ble_eq_true rfl) (ls := [some (.ref 12), some (zi k0)]) rfl (fun X C hF hX => ?_)
  subst hX
  have hh1 : h + 1 ≤ S 12 17 := by
    apply Classical.byContradiction
    intro hcon
    have e9 : mS S h = 4294967295 := by unfold mS; rw [if_neg (by omega)]
    rw [e9] at c0; exact absurd c0 (by decide)
  refine sw_aload_0 C dX6_behind_0 ?_
  refine sn_bipush C 32 (by decide) dX6_behind_1 ?_
  refine sn_cV1v C vX6_mark lX6_192 rfl (by decide) rfl rfl dX6_behind_3 (Nat.le_of_ble_eq_true rfl) (c_X6_mark hl htx hh (by decide)) (by decide) (by decide) (by decide) ?_
  rw [if_pos c0]
  refine sw_aload_0 C dX6_behind_6 ?_
  refine sn_getIe C (0) rfl fX6_185 rfl (by decide) rfl dX6_behind_7 ?_
  refine sn_if_eq C 17 (by decide) dX6_behind_10 (by decide) (fun c10 => ?_) (fun c10 => ?_)
  · refine sw_aload_0 C dX6_behind_17 ?_
    refine sw_iload_1 C dX6_behind_18 ?_
    refine sn_cV1r C vX6_digits lX6_195 rfl (by decide) rfl rfl dX6_behind_19 (Nat.le_of_ble_eq_true rfl) (c_X6_digits hl htx hh1 hk0) (by decide) (by decide) (by decide) ?_
    exact sn_iret C rfl hF dX6_behind_22 (by decide) (by decide) (by unfold mBh; rw [if_pos c0]) (by unfold mBh; rw [if_pos c0]) rfl rfl
  · exact absurd rfl c10

set_option maxRecDepth 100000 in
set_option maxHeartbeats 4000000 in
theorem c2_X6_behind {l : Launch} (hl : l.stackTraces = false) {G : zG} {S : zS} {J : Int64} {E : UInt64} (htx : mTx S) {h : Nat} (hh : h ≤ S 12 17) {L : Nat → Nat} {k0 : Nat} (hk0 : k0 ≤ 2) (c0 : ¬ mS S h = 32) : nCR l G mX6_behind 3 0 0 [.ref 12, zi k0] (mRd S h 0 L) J E (some (zi (mBh (mS S) k0 h).1)) (mRd S (mBh (mS S) k0 h).2.1 (mBh (mS S) k0 h).2.2 L) J E := by
  refine nCR.of hl (by decide) rfl (Nat.le_of_ble_eq_true rfl) (ls := [some (.ref 12), some (zi k0)]) rfl (fun X C hF hX => ?_)
  subst hX
  refine sw_aload_0 C dX6_behind_0 ?_
  refine sn_bipush C 32 (by decide) dX6_behind_1 ?_
  refine sn_cV1v C vX6_mark lX6_192 rfl (by decide) rfl rfl dX6_behind_3 (Nat.le_of_ble_eq_true rfl) (c_X6_mark hl htx hh (by decide)) (by decide) (by decide) (by decide) ?_
  rw [if_neg c0]
  refine sw_aload_0 C dX6_behind_6 ?_
  refine sn_getIe C (1) rfl fX6_185 rfl (by decide) rfl dX6_behind_7 ?_
  refine sn_if_eq C 17 (by decide) dX6_behind_10 (by decide) (fun c10 => ?_) (fun c10 => ?_)
  · exact absurd c10 (by decide)
  · refine sn_iconst C 0 (by decide) dX6_behind_13 ?_
    refine sw_goto C 22 dX6_behind_14 (by decide) ?_
    exact sn_iret C rfl hF dX6_behind_22 (by decide) (by decide) (by unfold mBh; rw [if_neg c0]) (by unfold mBh; rw [if_neg c0]) rfl rfl

theorem c_X6_behind {l : Launch} (hl : l.stackTraces = false) {G : zG} {S : zS} {J : Int64} {E : UInt64} (htx : mTx S) {h : Nat} (hh : h ≤ S 12 17) {L : Nat → Nat} {k0 : Nat} (hk0 : k0 ≤ 2) : nCR l G mX6_behind 3 0 0 [.ref 12, zi k0] (mRd S h 0 L) J E (some (zi (mBh (mS S) k0 h).1)) (mRd S (mBh (mS S) k0 h).2.1 (mBh (mS S) k0 h).2.2 L) J E := by
  by_cases c0 : mS S h = 32
  · exact c1_X6_behind hl htx hh hk0 c0
  · exact c2_X6_behind hl htx hh hk0 c0
