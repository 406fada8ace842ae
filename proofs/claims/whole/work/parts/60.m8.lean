def mDsum (V : Nat → Nat) (n : Nat) : Nat := zIt (fun e s => s + V (17 + e)) n 0
theorem mDsum_le {V : Nat → Nat} {n : Nat} (hn : n ≤ 12) (hd : ∀ e, e < 12 → V (17 + e) ≤ 9) : mDsum V n ≤ 9 * n := by
  unfold mDsum
  induction n with
  | zero => exact Nat.le_refl _
  | succ n ih => rw [zIt]; have := hd n (by omega); have := ih (by omega); omega
def mGsp (V : Nat → Nat) (n t : Nat) : Nat := zcnt n (fun e => decide (0 < mGos V t e))

set_option maxRecDepth 100000 in
set_option maxHeartbeats 4000000 in
theorem c_X6_meanDoubt {l : Launch} (hl : l.stackTraces = false) {G : zG} {S : zS} {J : Int64} {E : UInt64} {n t : Nat} (hm : mNow S n t) (h0 : ¬ n = 0) : nCR l G mX6_meanDoubt 7 0 0 [.ref 12] S J E (some (.double (FP.ddiv (FP.i2d (nI (mDsum (S 13) n))) (FP.i2d (nI n))))) (zU S 12 0 0) J E := by
  refine nCR.of hl (by decide) rfl (Nat.le_of_ble_eq_true rfl) (ls := [some (.ref 12), none, none]) rfl (fun X C hF hX => ?_)
  subst hX
  obtain ⟨hn, hz, ht, ht4, hls, hrs⟩ := id hm
  refine sw_aload_0 C dX6_meanDoubt_0 ?_
  refine sw_aload_0 C dX6_meanDoubt_1 ?_
  refine sw_getR C (o' := 13) fX6_16 rfl (by decide) rfl rfl (by decide) dX6_meanDoubt_2 ?_
  refine sn_iconst C 0 (by decide) dX6_meanDoubt_5 ?_
  refine sn_ialde C (n) hn rfl (by decide) (by omega) (by decide) dX6_meanDoubt_6 ?_
  refine sn_if_ne C 14 (by omega) dX6_meanDoubt_7 (by decide) (fun c7 => ?_) (fun c7 => ?_)
  · refine sn_iconst C 0 (by decide) dX6_meanDoubt_14 ?_
    refine sn_putI C fX6_47 rfl (by decide) rfl rfl dX6_meanDoubt_15 ?_
    refine sn_iconst C 0 (by decide) dX6_meanDoubt_18 ?_
    refine sw_istore_1 C rfl dX6_meanDoubt_19 ?_
    refine sn_iconst C 0 (by decide) dX6_meanDoubt_20 ?_
    refine sw_istore_2 C rfl dX6_meanDoubt_21 ?_
    have L22 : ∀ (kM i : Nat) (s : Nat) (c : Nat), i ≤ n → (c = if n = 0 then 1 else 0) → (s = zIt (fun e s => s + S 13 (17 + e)) i 0) → n - i < kM → SN G X 0 0 22 [some (.ref 12), some (zi s), some (zi i)] [] (zU S 12 0 c) J E := by
      intro kM
      induction kM with
      | zero => intro i s c _ _ _ hkM; exact absurd hkM (by omega)
      | succ kM ih22 =>
        intro i s c hi hc hs hkM
        refine sw_iload_2 C dX6_meanDoubt_22 ?_
        refine sw_aload_0 C dX6_meanDoubt_23 ?_
        refine sw_getR C (o' := 13) fX6_16 rfl (by decide) rfl rfl (by decide) dX6_meanDoubt_24 ?_
        refine sn_iconst C 0 (by decide) dX6_meanDoubt_27 ?_
        refine sn_ialde C (n) ((zU_o (by decide)).trans hn) rfl (by decide) (by omega) (by decide) dX6_meanDoubt_28 ?_
        refine sn_icmp_ge C 50 (by omega) (by omega) dX6_meanDoubt_29 (by decide) (fun c29 => ?_) (fun c29 => ?_)
        · have hs2 : s = mDsum (S 13) n := by rw [hs, show i = n from by omega]; rfl
          have h9 := mDsum_le (V := S 13) hz (fun e he => (hls e he).2.1)
          refine sw_aload_0 C dX6_meanDoubt_50 ?_
          refine sn_getIe C (c) zU_s fX6_47 rfl (by decide) rfl dX6_meanDoubt_51 ?_
          refine sn_if_ne C 70 (by rw [hc]; split <;> omega) dX6_meanDoubt_54 (by decide) (fun c54 => ?_) (fun c54 => ?_)
          · exfalso; rw [hc, if_neg h0] at c54; omega
          · refine sw_iload_1 C dX6_meanDoubt_57 ?_
            refine sw_i2d C dX6_meanDoubt_58 ?_
            refine sw_aload_0 C dX6_meanDoubt_59 ?_
            refine sw_getR C (o' := 13) fX6_16 rfl (by decide) rfl rfl (by decide) dX6_meanDoubt_60 ?_
            refine sn_iconst C 0 (by decide) dX6_meanDoubt_63 ?_
            refine sn_ialde C (n) ((zU_o (by decide)).trans hn) rfl (by decide) (by omega) (by decide) dX6_meanDoubt_64 ?_
            refine sw_i2d C dX6_meanDoubt_65 ?_
            refine sw_ddiv C (by rw [hs2]; have h8 := zDiv_ok ⟨mDsum (S 13) n, by omega⟩ ⟨n - 1, by omega⟩; simpa [show n - 1 + 1 = n by omega] using h8) dX6_meanDoubt_66 ?_
            refine sw_goto C 71 dX6_meanDoubt_67 (by decide) ?_
            rw [hs2, show c = 0 from by rw [hc, if_neg h0]]
            exact sn_dret C rfl hF dX6_meanDoubt_71 (by decide) (by decide) rfl rfl rfl
        · refine sw_iload_1 C dX6_meanDoubt_32 ?_
          refine sw_aload_0 C dX6_meanDoubt_33 ?_
          refine sw_getR C (o' := 13) fX6_16 rfl (by decide) rfl rfl (by decide) dX6_meanDoubt_34 ?_
          refine sn_bipush C 17 (by decide) dX6_meanDoubt_37 ?_
          refine sw_iload_2 C dX6_meanDoubt_39 ?_
          refine sn_iadd C dX6_meanDoubt_40 ?_
          refine sn_ialde C (S 13 (17 + i)) (zU_o (by decide)) rfl (by decide) (by omega) (by decide) dX6_meanDoubt_41 ?_
          refine sn_iadd C dX6_meanDoubt_42 ?_
          refine sw_istore_1 C rfl dX6_meanDoubt_43 ?_
          refine sn_iinc_2 C rfl dX6_meanDoubt_44 ?_
          refine sw_goto C 22 dX6_meanDoubt_47 (by decide) ?_
          exact ih22 (i + 1) _ _ (by omega) hc (by rw [zIt, ← hs]) (by omega)
    exact L22 _ 0 _ _ (by omega) (by simp [c7]) rfl (Nat.lt_succ_self _)
  · refine sn_iconst C 1 (by decide) dX6_meanDoubt_10 ?_
    refine sw_goto C 15 dX6_meanDoubt_11 (by decide) ?_
    refine sn_putI C fX6_47 rfl (by decide) rfl rfl dX6_meanDoubt_15 ?_
    refine sn_iconst C 0 (by decide) dX6_meanDoubt_18 ?_
    refine sw_istore_1 C rfl dX6_meanDoubt_19 ?_
    refine sn_iconst C 0 (by decide) dX6_meanDoubt_20 ?_
    refine sw_istore_2 C rfl dX6_meanDoubt_21 ?_
    have L22 : ∀ (kM i : Nat) (s : Nat) (c : Nat), i ≤ n → (c = if n = 0 then 1 else 0) → (s = zIt (fun e s => s + S 13 (17 + e)) i 0) → n - i < kM → SN G X 0 0 22 [some (.ref 12), some (zi s), some (zi i)] [] (zU S 12 0 c) J E := by
      intro kM
      induction kM with
      | zero => intro i s c _ _ _ hkM; exact absurd hkM (by omega)
      | succ kM ih22 =>
        intro i s c hi hc hs hkM
        refine sw_iload_2 C dX6_meanDoubt_22 ?_
        refine sw_aload_0 C dX6_meanDoubt_23 ?_
        refine sw_getR C (o' := 13) fX6_16 rfl (by decide) rfl rfl (by decide) dX6_meanDoubt_24 ?_
        refine sn_iconst C 0 (by decide) dX6_meanDoubt_27 ?_
        refine sn_ialde C (n) ((zU_o (by decide)).trans hn) rfl (by decide) (by omega) (by decide) dX6_meanDoubt_28 ?_
        refine sn_icmp_ge C 50 (by omega) (by omega) dX6_meanDoubt_29 (by decide) (fun c29 => ?_) (fun c29 => ?_)
        · have hs2 : s = mDsum (S 13) n := by rw [hs, show i = n from by omega]; rfl
          have h9 := mDsum_le (V := S 13) hz (fun e he => (hls e he).2.1)
          refine sw_aload_0 C dX6_meanDoubt_50 ?_
          refine sn_getIe C (c) zU_s fX6_47 rfl (by decide) rfl dX6_meanDoubt_51 ?_
          refine sn_if_ne C 70 (by rw [hc]; split <;> omega) dX6_meanDoubt_54 (by decide) (fun c54 => ?_) (fun c54 => ?_)
          · exfalso; rw [hc, if_neg h0] at c54; omega
          · refine sw_iload_1 C dX6_meanDoubt_57 ?_
            refine sw_i2d C dX6_meanDoubt_58 ?_
            refine sw_aload_0 C dX6_meanDoubt_59 ?_
            refine sw_getR C (o' := 13) fX6_16 rfl (by decide) rfl rfl (by decide) dX6_meanDoubt_60 ?_
            refine sn_iconst C 0 (by decide) dX6_meanDoubt_63 ?_
            refine sn_ialde C (n) ((zU_o (by decide)).trans hn) rfl (by decide) (by omega) (by decide) dX6_meanDoubt_64 ?_
            refine sw_i2d C dX6_meanDoubt_65 ?_
            refine sw_ddiv C (by rw [hs2]; have h8 := zDiv_ok ⟨mDsum (S 13) n, by omega⟩ ⟨n - 1, by omega⟩; simpa [show n - 1 + 1 = n by omega] using h8) dX6_meanDoubt_66 ?_
            refine sw_goto C 71 dX6_meanDoubt_67 (by decide) ?_
            rw [hs2, show c = 0 from by rw [hc, if_neg h0]]
            exact sn_dret C rfl hF dX6_meanDoubt_71 (by decide) (by decide) rfl rfl rfl
        · refine sw_iload_1 C dX6_meanDoubt_32 ?_
          refine sw_aload_0 C dX6_meanDoubt_33 ?_
          refine sw_getR C (o' := 13) fX6_16 rfl (by decide) rfl rfl (by decide) dX6_meanDoubt_34 ?_
          refine sn_bipush C 17 (by decide) dX6_meanDoubt_37 ?_
          refine sw_iload_2 C dX6_meanDoubt_39 ?_
          refine sn_iadd C dX6_meanDoubt_40 ?_
          refine sn_ialde C (S 13 (17 + i)) (zU_o (by decide)) rfl (by decide) (by omega) (by decide) dX6_meanDoubt_41 ?_
          refine sn_iadd C dX6_meanDoubt_42 ?_
          refine sw_istore_1 C rfl dX6_meanDoubt_43 ?_
          refine sn_iinc_2 C rfl dX6_meanDoubt_44 ?_
          refine sw_goto C 22 dX6_meanDoubt_47 (by decide) ?_
          exact ih22 (i + 1) _ _ (by omega) hc (by rw [zIt, ← hs]) (by omega)
    exact L22 _ 0 _ _ (by omega) (by simp [c7]) rfl (Nat.lt_succ_self _)

set_option maxRecDepth 100000 in
set_option maxHeartbeats 4000000 in
theorem c0_X6_meanDoubt {l : Launch} (hl : l.stackTraces = false) {G : zG} {S : zS} {J : Int64} {E : UInt64} {n t : Nat} (hm : mNow S n t) (h0 : n = 0) : nCR l G mX6_meanDoubt 7 0 0 [.ref 12] S J E (some (.double 0)) (zU S 12 0 1) J E := by
  refine nCR.of hl (by decide) rfl (Nat.le_of_ble_eq_true rfl) (ls := [some (.ref 12), none, none]) rfl (fun X C hF hX => ?_)
  subst hX
  obtain ⟨hn, hz, ht, ht4, hls, hrs⟩ := id hm
  refine sw_aload_0 C dX6_meanDoubt_0 ?_
  refine sw_aload_0 C dX6_meanDoubt_1 ?_
  refine sw_getR C (o' := 13) fX6_16 rfl (by decide) rfl rfl (by decide) dX6_meanDoubt_2 ?_
  refine sn_iconst C 0 (by decide) dX6_meanDoubt_5 ?_
  refine sn_ialde C (n) hn rfl (by decide) (by omega) (by decide) dX6_meanDoubt_6 ?_
  refine sn_if_ne C 14 (by omega) dX6_meanDoubt_7 (by decide) (fun c7 => ?_) (fun c7 => ?_)
  · refine sn_iconst C 0 (by decide) dX6_meanDoubt_14 ?_
    refine sn_putI C fX6_47 rfl (by decide) rfl rfl dX6_meanDoubt_15 ?_
    refine sn_iconst C 0 (by decide) dX6_meanDoubt_18 ?_
    refine sw_istore_1 C rfl dX6_meanDoubt_19 ?_
    refine sn_iconst C 0 (by decide) dX6_meanDoubt_20 ?_
    refine sw_istore_2 C rfl dX6_meanDoubt_21 ?_
    have L22 : ∀ (kM i : Nat) (s : Nat) (c : Nat), i ≤ n → (c = if n = 0 then 1 else 0) → (s = zIt (fun e s => s + S 13 (17 + e)) i 0) → n - i < kM → SN G X 0 0 22 [some (.ref 12), some (zi s), some (zi i)] [] (zU S 12 0 c) J E := by
      intro kM
      induction kM with
      | zero => intro i s c _ _ _ hkM; exact absurd hkM (by omega)
      | succ kM ih22 =>
        intro i s c hi hc hs hkM
        refine sw_iload_2 C dX6_meanDoubt_22 ?_
        refine sw_aload_0 C dX6_meanDoubt_23 ?_
        refine sw_getR C (o' := 13) fX6_16 rfl (by decide) rfl rfl (by decide) dX6_meanDoubt_24 ?_
        refine sn_iconst C 0 (by decide) dX6_meanDoubt_27 ?_
        refine sn_ialde C (n) ((zU_o (by decide)).trans hn) rfl (by decide) (by omega) (by decide) dX6_meanDoubt_28 ?_
        refine sn_icmp_ge C 50 (by omega) (by omega) dX6_meanDoubt_29 (by decide) (fun c29 => ?_) (fun c29 => ?_)
        · have hs2 : s = mDsum (S 13) n := by rw [hs, show i = n from by omega]; rfl
          have h9 := mDsum_le (V := S 13) hz (fun e he => (hls e he).2.1)
          refine sw_aload_0 C dX6_meanDoubt_50 ?_
          refine sn_getIe C (c) zU_s fX6_47 rfl (by decide) rfl dX6_meanDoubt_51 ?_
          refine sn_if_ne C 70 (by rw [hc]; split <;> omega) dX6_meanDoubt_54 (by decide) (fun c54 => ?_) (fun c54 => ?_)
          · refine sw_dconst0 C dX6_meanDoubt_70 ?_
            rw [show c = 1 from by rw [hc, if_pos h0]]
            exact sn_dret C rfl hF dX6_meanDoubt_71 (by decide) (by decide) rfl rfl rfl
          · exfalso; rw [hc, if_pos h0] at c54; omega
        · refine sw_iload_1 C dX6_meanDoubt_32 ?_
          refine sw_aload_0 C dX6_meanDoubt_33 ?_
          refine sw_getR C (o' := 13) fX6_16 rfl (by decide) rfl rfl (by decide) dX6_meanDoubt_34 ?_
          refine sn_bipush C 17 (by decide) dX6_meanDoubt_37 ?_
          refine sw_iload_2 C dX6_meanDoubt_39 ?_
          refine sn_iadd C dX6_meanDoubt_40 ?_
          refine sn_ialde C (S 13 (17 + i)) (zU_o (by decide)) rfl (by decide) (by omega) (by decide) dX6_meanDoubt_41 ?_
          refine sn_iadd C dX6_meanDoubt_42 ?_
          refine sw_istore_1 C rfl dX6_meanDoubt_43 ?_
          refine sn_iinc_2 C rfl dX6_meanDoubt_44 ?_
          refine sw_goto C 22 dX6_meanDoubt_47 (by decide) ?_
          exact ih22 (i + 1) _ _ (by omega) hc (by rw [zIt, ← hs]) (by omega)
    exact L22 _ 0 _ _ (by omega) (by simp [c7]) rfl (Nat.lt_succ_self _)
  · refine sn_iconst C 1 (by decide) dX6_meanDoubt_10 ?_
    refine sw_goto C 15 dX6_meanDoubt_11 (by decide) ?_
    refine sn_putI C fX6_47 rfl (by decide) rfl rfl dX6_meanDoubt_15 ?_
    refine sn_iconst C 0 (by decide) dX6_meanDoubt_18 ?_
    refine sw_istore_1 C rfl dX6_meanDoubt_19 ?_
    refine sn_iconst C 0 (by decide) dX6_meanDoubt_20 ?_
    refine sw_istore_2 C rfl dX6_meanDoubt_21 ?_
    have L22 : ∀ (kM i : Nat) (s : Nat) (c : Nat), i ≤ n → (c = if n = 0 then 1 else 0) → (s = zIt (fun e s => s + S 13 (17 + e)) i 0) → n - i < kM → SN G X 0 0 22 [some (.ref 12), some (zi s), some (zi i)] [] (zU S 12 0 c) J E := by
      intro kM
      induction kM with
      | zero => intro i s c _ _ _ hkM; exact absurd hkM (by omega)
      | succ kM ih22 =>
        intro i s c hi hc hs hkM
        refine sw_iload_2 C dX6_meanDoubt_22 ?_
        refine sw_aload_0 C dX6_meanDoubt_23 ?_
        refine sw_getR C (o' := 13) fX6_16 rfl (by decide) rfl rfl (by decide) dX6_meanDoubt_24 ?_
        refine sn_iconst C 0 (by decide) dX6_meanDoubt_27 ?_
        refine sn_ialde C (n) ((zU_o (by decide)).trans hn) rfl (by decide) (by omega) (by decide) dX6_meanDoubt_28 ?_
        refine sn_icmp_ge C 50 (by omega) (by omega) dX6_meanDoubt_29 (by decide) (fun c29 => ?_) (fun c29 => ?_)
        · have hs2 : s = mDsum (S 13) n := by rw [hs, show i = n from by omega]; rfl
          have h9 := mDsum_le (V := S 13) hz (fun e he => (hls e he).2.1)
          refine sw_aload_0 C dX6_meanDoubt_50 ?_
          refine sn_getIe C (c) zU_s fX6_47 rfl (by decide) rfl dX6_meanDoubt_51 ?_
          refine sn_if_ne C 70 (by rw [hc]; split <;> omega) dX6_meanDoubt_54 (by decide) (fun c54 => ?_) (fun c54 => ?_)
          · refine sw_dconst0 C dX6_meanDoubt_70 ?_
            rw [show c = 1 from by rw [hc, if_pos h0]]
            exact sn_dret C rfl hF dX6_meanDoubt_71 (by decide) (by decide) rfl rfl rfl
          · exfalso; rw [hc, if_pos h0] at c54; omega
        · refine sw_iload_1 C dX6_meanDoubt_32 ?_
          refine sw_aload_0 C dX6_meanDoubt_33 ?_
          refine sw_getR C (o' := 13) fX6_16 rfl (by decide) rfl rfl (by decide) dX6_meanDoubt_34 ?_
          refine sn_bipush C 17 (by decide) dX6_meanDoubt_37 ?_
          refine sw_iload_2 C dX6_meanDoubt_39 ?_
          refine sn_iadd C dX6_meanDoubt_40 ?_
          refine sn_ialde C (S 13 (17 + i)) (zU_o (by decide)) rfl (by decide) (by omega) (by decide) dX6_meanDoubt_41 ?_
          refine sn_iadd C dX6_meanDoubt_42 ?_
          refine sw_istore_1 C rfl dX6_meanDoubt_43 ?_
          refine sn_iinc_2 C rfl dX6_meanDoubt_44 ?_
          refine sw_goto C 22 dX6_meanDoubt_47 (by decide) ?_
          exact ih22 (i + 1) _ _ (by omega) hc (by rw [zIt, ← hs]) (by omega)
    exact L22 _ 0 _ _ (by omega) (by simp [c7]) rfl (Nat.lt_succ_self _)

set_option maxRecDepth 100000 in
set_option maxHeartbeats 4000000 in
theorem c_X6_gossipShare {l : Launch} (hl : l.stackTraces = false) {G : zG} {S : zS} {J : Int64} {E : UInt64} {n t : Nat} (hm : mNow S n t) (h0 : ¬ n = 0) : nCR l G mX6_gossipShare 7 0 0 [.ref 12] S J E (some (.float (FP.fdiv (FP.i2f (nI (mGsp (S 13) n t))) (FP.i2f (nI n))))) (zU S 12 0 0) J E := by
  refine nCR.of hl (by decide) rfl (Nat.le_of_ble_eq_true rfl) (ls := [some (.ref 12), none, none]) rfl (fun X C hF hX => ?_)
  subst hX
  obtain ⟨hn, hz, ht, ht4, hls, hrs⟩ := id hm
  refine sw_aload_0 C dX6_gossipShare_0 ?_
  refine sw_aload_0 C dX6_gossipShare_1 ?_
  refine sw_getR C (o' := 13) fX6_16 rfl (by decide) rfl rfl (by decide) dX6_gossipShare_2 ?_
  refine sn_iconst C 0 (by decide) dX6_gossipShare_5 ?_
  refine sn_ialde C (n) hn rfl (by decide) (by omega) (by decide) dX6_gossipShare_6 ?_
  refine sn_if_ne C 14 (by omega) dX6_gossipShare_7 (by decide) (fun c7 => ?_) (fun c7 => ?_)
  · refine sn_iconst C 0 (by decide) dX6_gossipShare_14 ?_
    refine sn_putI C fX6_47 rfl (by decide) rfl rfl dX6_gossipShare_15 ?_
    refine sn_iconst C 0 (by decide) dX6_gossipShare_18 ?_
    refine sw_istore_1 C rfl dX6_gossipShare_19 ?_
    refine sn_iconst C 0 (by decide) dX6_gossipShare_20 ?_
    refine sw_istore_2 C rfl dX6_gossipShare_21 ?_
    have L22 : ∀ (kM i : Nat) (s : Nat) (c : Nat), i ≤ n → (c = if n = 0 then 1 else 0) → (s = zcnt i (fun e => decide (0 < mGos (S 13) t e))) → n - i < kM → SN G X 0 0 22 [some (.ref 12), some (zi s), some (zi i)] [] (zU S 12 0 c) J E := by
      intro kM
      induction kM with
      | zero => intro i s c _ _ _ hkM; exact absurd hkM (by omega)
      | succ kM ih22 =>
        intro i s c hi hc hs hkM
        refine sw_iload_2 C dX6_gossipShare_22 ?_
        refine sw_aload_0 C dX6_gossipShare_23 ?_
        refine sw_getR C (o' := 13) fX6_16 rfl (by decide) rfl rfl (by decide) dX6_gossipShare_24 ?_
        refine sn_iconst C 0 (by decide) dX6_gossipShare_27 ?_
        refine sn_ialde C (n) ((zU_o (by decide)).trans hn) rfl (by decide) (by omega) (by decide) dX6_gossipShare_28 ?_
        refine sn_icmp_ge C 54 (by omega) (by omega) dX6_gossipShare_29 (by decide) (fun c29 => ?_) (fun c29 => ?_)
        · have hs2 : s = mGsp (S 13) n t := by rw [hs, show i = n from by omega]; rfl
          have h9 : mGsp (S 13) n t ≤ n := zcnt_le _ _
          refine sw_aload_0 C dX6_gossipShare_54 ?_
          refine sn_getIe C (c) zU_s fX6_47 rfl (by decide) rfl dX6_gossipShare_55 ?_
          refine sn_if_ne C 74 (by rw [hc]; split <;> omega) dX6_gossipShare_58 (by decide) (fun c58 => ?_) (fun c58 => ?_)
          · exfalso; rw [hc, if_neg h0] at c58; omega
          · refine sw_iload_1 C dX6_gossipShare_61 ?_
            refine sw_i2f C dX6_gossipShare_62 ?_
            refine sw_aload_0 C dX6_gossipShare_63 ?_
            refine sw_getR C (o' := 13) fX6_16 rfl (by decide) rfl rfl (by decide) dX6_gossipShare_64 ?_
            refine sn_iconst C 0 (by decide) dX6_gossipShare_67 ?_
            refine sn_ialde C (n) ((zU_o (by decide)).trans hn) rfl (by decide) (by omega) (by decide) dX6_gossipShare_68 ?_
            refine sw_i2f C dX6_gossipShare_69 ?_
            refine sw_fdiv C (by rw [hs2]; have h8 := zFdiv_ok ⟨mGsp (S 13) n t, by omega⟩ ⟨n - 1, by omega⟩; simpa [show n - 1 + 1 = n by omega] using h8) dX6_gossipShare_70 ?_
            refine sw_goto C 75 dX6_gossipShare_71 (by decide) ?_
            rw [hs2, show c = 0 from by rw [hc, if_neg h0]]
            exact sn_fret C rfl hF dX6_gossipShare_75 (by decide) (by decide) rfl rfl rfl
        · refine sw_iload_1 C dX6_gossipShare_32 ?_
          refine sw_aload_0 C dX6_gossipShare_33 ?_
          refine sw_iload_2 C dX6_gossipShare_34 ?_
          refine sn_cV1r C vX6_gossip lX6_163 rfl (by decide) rfl rfl dX6_gossipShare_35 (Nat.le_of_ble_eq_true rfl) (c_X6_gossip hl (V := S 13) (funext (fun b => zU_o (by decide))) ht ht4 (by omega) (fun r hr => (hrs r hr).2.2.1)) (by decide) (by decide) (by decide) ?_
          refine sn_if_le C 45 (by have : mGos (S 13) t i ≤ t := zcnt_le _ _; omega) dX6_gossipShare_38 (by decide) (fun c38 => ?_) (fun c38 => ?_)
          · refine sn_iconst C 0 (by decide) dX6_gossipShare_45 ?_
            refine sn_iadd C dX6_gossipShare_46 ?_
            refine sw_istore_1 C rfl dX6_gossipShare_47 ?_
            refine sn_iinc_2 C rfl dX6_gossipShare_48 ?_
            refine sw_goto C 22 dX6_gossipShare_51 (by decide) ?_
            exact ih22 (i + 1) _ _ (by omega) hc (by rw [zcnt, zIt, ← zcnt, ← hs]; simp [c38]) (by omega)
          · refine sn_iconst C 1 (by decide) dX6_gossipShare_41 ?_
            refine sw_goto C 46 dX6_gossipShare_42 (by decide) ?_
            refine sn_iadd C dX6_gossipShare_46 ?_
            refine sw_istore_1 C rfl dX6_gossipShare_47 ?_
            refine sn_iinc_2 C rfl dX6_gossipShare_48 ?_
            refine sw_goto C 22 dX6_gossipShare_51 (by decide) ?_
            exact ih22 (i + 1) _ _ (by omega) hc (by rw [zcnt, zIt, ← zcnt, ← hs]; simp [c38]) (by omega)
    exact L22 _ 0 _ _ (by omega) (by simp [c7]) rfl (Nat.lt_succ_self _)
  · refine sn_iconst C 1 (by decide) dX6_gossipShare_10 ?_
    refine sw_goto C 15 dX6_gossipShare_11 (by decide) ?_
    refine sn_putI C fX6_47 rfl (by decide) rfl rfl dX6_gossipShare_15 ?_
    refine sn_iconst C 0 (by decide) dX6_gossipShare_18 ?_
    refine sw_istore_1 C rfl dX6_gossipShare_19 ?_
    refine sn_iconst C 0 (by decide) dX6_gossipShare_20 ?_
    refine sw_istore_2 C rfl dX6_gossipShare_21 ?_
    have L22 : ∀ (kM i : Nat) (s : Nat) (c : Nat), i ≤ n → (c = if n = 0 then 1 else 0) → (s = zcnt i (fun e => decide (0 < mGos (S 13) t e))) → n - i < kM → SN G X 0 0 22 [some (.ref 12), some (zi s), some (zi i)] [] (zU S 12 0 c) J E := by
      intro kM
      induction kM with
      | zero => intro i s c _ _ _ hkM; exact absurd hkM (by omega)
      | succ kM ih22 =>
        intro i s c hi hc hs hkM
        refine sw_iload_2 C dX6_gossipShare_22 ?_
        refine sw_aload_0 C dX6_gossipShare_23 ?_
        refine sw_getR C (o' := 13) fX6_16 rfl (by decide) rfl rfl (by decide) dX6_gossipShare_24 ?_
        refine sn_iconst C 0 (by decide) dX6_gossipShare_27 ?_
        refine sn_ialde C (n) ((zU_o (by decide)).trans hn) rfl (by decide) (by omega) (by decide) dX6_gossipShare_28 ?_
        refine sn_icmp_ge C 54 (by omega) (by omega) dX6_gossipShare_29 (by decide) (fun c29 => ?_) (fun c29 => ?_)
        · have hs2 : s = mGsp (S 13) n t := by rw [hs, show i = n from by omega]; rfl
          have h9 : mGsp (S 13) n t ≤ n := zcnt_le _ _
          refine sw_aload_0 C dX6_gossipShare_54 ?_
          refine sn_getIe C (c) zU_s fX6_47 rfl (by decide) rfl dX6_gossipShare_55 ?_
          refine sn_if_ne C 74 (by rw [hc]; split <;> omega) dX6_gossipShare_58 (by decide) (fun c58 => ?_) (fun c58 => ?_)
          · exfalso; rw [hc, if_neg h0] at c58; omega
          · refine sw_iload_1 C dX6_gossipShare_61 ?_
            refine sw_i2f C dX6_gossipShare_62 ?_
            refine sw_aload_0 C dX6_gossipShare_63 ?_
            refine sw_getR C (o' := 13) fX6_16 rfl (by decide) rfl rfl (by decide) dX6_gossipShare_64 ?_
            refine sn_iconst C 0 (by decide) dX6_gossipShare_67 ?_
            refine sn_ialde C (n) ((zU_o (by decide)).trans hn) rfl (by decide) (by omega) (by decide) dX6_gossipShare_68 ?_
            refine sw_i2f C dX6_gossipShare_69 ?_
            refine sw_fdiv C (by rw [hs2]; have h8 := zFdiv_ok ⟨mGsp (S 13) n t, by omega⟩ ⟨n - 1, by omega⟩; simpa [show n - 1 + 1 = n by omega] using h8) dX6_gossipShare_70 ?_
            refine sw_goto C 75 dX6_gossipShare_71 (by decide) ?_
            rw [hs2, show c = 0 from by rw [hc, if_neg h0]]
            exact sn_fret C rfl hF dX6_gossipShare_75 (by decide) (by decide) rfl rfl rfl
        · refine sw_iload_1 C dX6_gossipShare_32 ?_
          refine sw_aload_0 C dX6_gossipShare_33 ?_
          refine sw_iload_2 C dX6_gossipShare_34 ?_
          refine sn_cV1r C vX6_gossip lX6_163 rfl (by decide) rfl rfl dX6_gossipShare_35 (Nat.le_of_ble_eq_true rfl) (c_X6_gossip hl (V := S 13) (funext (fun b => zU_o (by decide))) ht ht4 (by omega) (fun r hr => (hrs r hr).2.2.1)) (by decide) (by decide) (by decide) ?_
          refine sn_if_le C 45 (by have : mGos (S 13) t i ≤ t := zcnt_le _ _; omega) dX6_gossipShare_38 (by decide) (fun c38 => ?_) (fun c38 => ?_)
          · refine sn_iconst C 0 (by decide) dX6_gossipShare_45 ?_
            refine sn_iadd C dX6_gossipShare_46 ?_
            refine sw_istore_1 C rfl dX6_gossipShare_47 ?_
            refine sn_iinc_2 C rfl dX6_gossipShare_48 ?_
            refine sw_goto C 22 dX6_gossipShare_51 (by decide) ?_
            exact ih22 (i + 1) _ _ (by omega) hc (by rw [zcnt, zIt, ← zcnt, ← hs]; simp [c38]) (by omega)
          · refine sn_iconst C 1 (by decide) dX6_gossipShare_41 ?_
            refine sw_goto C 46 dX6_gossipShare_42 (by decide) ?_
            refine sn_iadd C dX6_gossipShare_46 ?_
            refine sw_istore_1 C rfl dX6_gossipShare_47 ?_
            refine sn_iinc_2 C rfl dX6_gossipShare_48 ?_
            refine sw_goto C 22 dX6_gossipShare_51 (by decide) ?_
            exact ih22 (i + 1) _ _ (by omega) hc (by rw [zcnt, zIt, ← zcnt, ← hs]; simp [c38]) (by omega)
    exact L22 _ 0 _ _ (by omega) (by simp [c7]) rfl (Nat.lt_succ_self _)

set_option maxRecDepth 100000 in
set_option maxHeartbeats 4000000 in
theorem c0_X6_gossipShare {l : Launch} (hl : l.stackTraces = false) {G : zG} {S : zS} {J : Int64} {E : UInt64} {n t : Nat} (hm : mNow S n t) (h0 : n = 0) : nCR l G mX6_gossipShare 7 0 0 [.ref 12] S J E (some (.float 0)) (zU S 12 0 1) J E := by
  refine nCR.of hl (by decide) rfl (Nat.le_of_ble_eq_true rfl) (ls := [some (.ref 12), none, none]) rfl (fun X C hF hX => ?_)
  subst hX
  obtain ⟨hn, hz, ht, ht4, hls, hrs⟩ := id hm
  refine sw_aload_0 C dX6_gossipShare_0 ?_
  refine sw_aload_0 C dX6_gossipShare_1 ?_
  refine sw_getR C (o' := 13) fX6_16 rfl (by decide) rfl rfl (by decide) dX6_gossipShare_2 ?_
  refine sn_iconst C 0 (by decide) dX6_gossipShare_5 ?_
  refine sn_ialde C (n) hn rfl (by decide) (by omega) (by decide) dX6_gossipShare_6 ?_
  refine sn_if_ne C 14 (by omega) dX6_gossipShare_7 (by decide) (fun c7 => ?_) (fun c7 => ?_)
  · refine sn_iconst C 0 (by decide) dX6_gossipShare_14 ?_
    refine sn_putI C fX6_47 rfl (by decide) rfl rfl dX6_gossipShare_15 ?_
    refine sn_iconst C 0 (by decide) dX6_gossipShare_18 ?_
    refine sw_istore_1 C rfl dX6_gossipShare_19 ?_
    refine sn_iconst C 0 (by decide) dX6_gossipShare_20 ?_
    refine sw_istore_2 C rfl dX6_gossipShare_21 ?_
    have L22 : ∀ (kM i : Nat) (s : Nat) (c : Nat), i ≤ n → (c = if n = 0 then 1 else 0) → (s = zcnt i (fun e => decide (0 < mGos (S 13) t e))) → n - i < kM → SN G X 0 0 22 [some (.ref 12), some (zi s), some (zi i)] [] (zU S 12 0 c) J E := by
      intro kM
      induction kM with
      | zero => intro i s c _ _ _ hkM; exact absurd hkM (by omega)
      | succ kM ih22 =>
        intro i s c hi hc hs hkM
        refine sw_iload_2 C dX6_gossipShare_22 ?_
        refine sw_aload_0 C dX6_gossipShare_23 ?_
        refine sw_getR C (o' := 13) fX6_16 rfl (by decide) rfl rfl (by decide) dX6_gossipShare_24 ?_
        refine sn_iconst C 0 (by decide) dX6_gossipShare_27 ?_
        refine sn_ialde C (n) ((zU_o (by decide)).trans hn) rfl (by decide) (by omega) (by decide) dX6_gossipShare_28 ?_
        refine sn_icmp_ge C 54 (by omega) (by omega) dX6_gossipShare_29 (by decide) (fun c29 => ?_) (fun c29 => ?_)
        · have hs2 : s = mGsp (S 13) n t := by rw [hs, show i = n from by omega]; rfl
          have h9 : mGsp (S 13) n t ≤ n := zcnt_le _ _
          refine sw_aload_0 C dX6_gossipShare_54 ?_
          refine sn_getIe C (c) zU_s fX6_47 rfl (by decide) rfl dX6_gossipShare_55 ?_
          refine sn_if_ne C 74 (by rw [hc]; split <;> omega) dX6_gossipShare_58 (by decide) (fun c58 => ?_) (fun c58 => ?_)
          · refine sw_fconst0 C dX6_gossipShare_74 ?_
            rw [show c = 1 from by rw [hc, if_pos h0]]
            exact sn_fret C rfl hF dX6_gossipShare_75 (by decide) (by decide) rfl rfl rfl
          · exfalso; rw [hc, if_pos h0] at c58; omega
        · refine sw_iload_1 C dX6_gossipShare_32 ?_
          refine sw_aload_0 C dX6_gossipShare_33 ?_
          refine sw_iload_2 C dX6_gossipShare_34 ?_
          refine sn_cV1r C vX6_gossip lX6_163 rfl (by decide) rfl rfl dX6_gossipShare_35 (Nat.le_of_ble_eq_true rfl) (c_X6_gossip hl (V := S 13) (funext (fun b => zU_o (by decide))) ht ht4 (by omega) (fun r hr => (hrs r hr).2.2.1)) (by decide) (by decide) (by decide) ?_
          refine sn_if_le C 45 (by have : mGos (S 13) t i ≤ t := zcnt_le _ _; omega) dX6_gossipShare_38 (by decide) (fun c38 => ?_) (fun c38 => ?_)
          · refine sn_iconst C 0 (by decide) dX6_gossipShare_45 ?_
            refine sn_iadd C dX6_gossipShare_46 ?_
            refine sw_istore_1 C rfl dX6_gossipShare_47 ?_
            refine sn_iinc_2 C rfl dX6_gossipShare_48 ?_
            refine sw_goto C 22 dX6_gossipShare_51 (by decide) ?_
            exact ih22 (i + 1) _ _ (by omega) hc (by rw [zcnt, zIt, ← zcnt, ← hs]; simp [c38]) (by omega)
          · refine sn_iconst C 1 (by decide) dX6_gossipShare_41 ?_
            refine sw_goto C 46 dX6_gossipShare_42 (by decide) ?_
            refine sn_iadd C dX6_gossipShare_46 ?_
            refine sw_istore_1 C rfl dX6_gossipShare_47 ?_
            refine sn_iinc_2 C rfl dX6_gossipShare_48 ?_
            refine sw_goto C 22 dX6_gossipShare_51 (by decide) ?_
            exact ih22 (i + 1) _ _ (by omega) hc (by rw [zcnt, zIt, ← zcnt, ← hs]; simp [c38]) (by omega)
    exact L22 _ 0 _ _ (by omega) (by simp [c7]) rfl (Nat.lt_succ_self _)
  · refine sn_iconst C 1 (by decide) dX6_gossipShare_10 ?_
    refine sw_goto C 15 dX6_gossipShare_11 (by decide) ?_
    refine sn_putI C fX6_47 rfl (by decide) rfl rfl dX6_gossipShare_15 ?_
    refine sn_iconst C 0 (by decide) dX6_gossipShare_18 ?_
    refine sw_istore_1 C rfl dX6_gossipShare_19 ?_
    refine sn_iconst C 0 (by decide) dX6_gossipShare_20 ?_
    refine sw_istore_2 C rfl dX6_gossipShare_21 ?_
    have L22 : ∀ (kM i : Nat) (s : Nat) (c : Nat), i ≤ n → (c = if n = 0 then 1 else 0) → (s = zcnt i (fun e => decide (0 < mGos (S 13) t e))) → n - i < kM → SN G X 0 0 22 [some (.ref 12), some (zi s), some (zi i)] [] (zU S 12 0 c) J E := by
      intro kM
      induction kM with
      | zero => intro i s c _ _ _ hkM; exact absurd hkM (by omega)
      | succ kM ih22 =>
        intro i s c hi hc hs hkM
        refine sw_iload_2 C dX6_gossipShare_22 ?_
        refine sw_aload_0 C dX6_gossipShare_23 ?_
        refine sw_getR C (o' := 13) fX6_16 rfl (by decide) rfl rfl (by decide) dX6_gossipShare_24 ?_
        refine sn_iconst C 0 (by decide) dX6_gossipShare_27 ?_
        refine sn_ialde C (n) ((zU_o (by decide)).trans hn) rfl (by decide) (by omega) (by decide) dX6_gossipShare_28 ?_
        refine sn_icmp_ge C 54 (by omega) (by omega) dX6_gossipShare_29 (by decide) (fun c29 => ?_) (fun c29 => ?_)
        · have hs2 : s = mGsp (S 13) n t := by rw [hs, show i = n from by omega]; rfl
          have h9 : mGsp (S 13) n t ≤ n := zcnt_le _ _
          refine sw_aload_0 C dX6_gossipShare_54 ?_
          refine sn_getIe C (c) zU_s fX6_47 rfl (by decide) rfl dX6_gossipShare_55 ?_
          refine sn_if_ne C 74 (by rw [hc]; split <;> omega) dX6_gossipShare_58 (by decide) (fun c58 => ?_) (fun c58 => ?_)
          · refine sw_fconst0 C dX6_gossipShare_74 ?_
            rw [show c = 1 from by rw [hc, if_pos h0]]
            exact sn_fret C rfl hF dX6_gossipShare_75 (by decide) (by decide) rfl rfl rfl
          · exfalso; rw [hc, if_pos h0] at c58; omega
        · refine sw_iload_1 C dX6_gossipShare_32 ?_
          refine sw_aload_0 C dX6_gossipShare_33 ?_
          refine sw_iload_2 C dX6_gossipShare_34 ?_
          refine sn_cV1r C vX6_gossip lX6_163 rfl (by decide) rfl rfl dX6_gossipShare_35 (Nat.le_of_ble_eq_true rfl) (c_X6_gossip hl (V := S 13) (funext (fun b => zU_o (by decide))) ht ht4 (by omega) (fun r hr => (hrs r hr).2.2.1)) (by decide) (by decide) (by decide) ?_
          refine sn_if_le C 45 (by have : mGos (S 13) t i ≤ t := zcnt_le _ _; omega) dX6_gossipShare_38 (by decide) (fun c38 => ?_) (fun c38 => ?_)
          · refine sn_iconst C 0 (by decide) dX6_gossipShare_45 ?_
            refine sn_iadd C dX6_gossipShare_46 ?_
            refine sw_istore_1 C rfl dX6_gossipShare_47 ?_
            refine sn_iinc_2 C rfl dX6_gossipShare_48 ?_
            refine sw_goto C 22 dX6_gossipShare_51 (by decide) ?_
            exact ih22 (i + 1) _ _ (by omega) hc (by rw [zcnt, zIt, ← zcnt, ← hs]; simp [c38]) (by omega)
          · refine sn_iconst C 1 (by decide) dX6_gossipShare_41 ?_
            refine sw_goto C 46 dX6_gossipShare_42 (by decide) ?_
            refine sn_iadd C dX6_gossipShare_46 ?_
            refine sw_istore_1 C rfl dX6_gossipShare_47 ?_
            refine sn_iinc_2 C rfl dX6_gossipShare_48 ?_
            refine sw_goto C 22 dX6_gossipShare_51 (by decide) ?_
            exact ih22 (i + 1) _ _ (by omega) hc (by rw [zcnt, zIt, ← zcnt, ← hs]; simp [c38]) (by omega)
    exact L22 _ 0 _ _ (by omega) (by simp [c7]) rfl (Nat.lt_succ_self _)

set_option maxRecDepth 100000 in
set_option maxHeartbeats 4000000 in
theorem c_X6_isConsistent {l : Launch} (hl : l.stackTraces = false) {G : zG} {S : zS} {J : Int64} {E : UInt64} {n t : Nat} (hm : mNow S n t) (hcl : ∀ r, r < t → S 13 (41 + 5 * r + 3) &&& S 13 (41 + 5 * r + 4) = 0) : nCR l G mX6_isConsistent 7 0 0 [.ref 12] S J E (some (zi true.toNat)) (zU S 12 0 0) J E := by
  refine nCR.of hl (by decide) rfl (Nat.le_of_ble_eq_true rfl) (ls := [some (.ref 12), none, none]) rfl (fun X C hF hX => ?_)
  subst hX
  obtain ⟨hn, hz, ht, ht4, hls, hrs⟩ := id hm
  refine sw_aload_0 C dX6_isConsistent_0 ?_
  refine sn_iconst C 0 (by decide) dX6_isConsistent_1 ?_
  refine sn_putI C fX6_47 rfl (by decide) rfl rfl dX6_isConsistent_2 ?_
  refine sn_iconst C 1 (by decide) dX6_isConsistent_5 ?_
  refine sw_istore_1 C rfl dX6_isConsistent_6 ?_
  refine sn_iconst C 0 (by decide) dX6_isConsistent_7 ?_
  refine sw_istore_2 C rfl dX6_isConsistent_8 ?_
  have L9 : ∀ (kM i : Nat) , i ≤ t → t - i < kM → SN G X 0 0 9 [some (.ref 12), some (zi 1), some (zi i)] [] (zU S 12 0 0) J E := by
    intro kM
    induction kM with
    | zero => intro i  _  hkM; exact absurd hkM (by omega)
    | succ kM ih9 =>
      intro i  hi  hkM
      refine sw_iload_2 C dX6_isConsistent_9 ?_
      refine sw_aload_0 C dX6_isConsistent_10 ?_
      refine sw_getR C (o' := 13) fX6_16 rfl (by decide) rfl rfl (by decide) dX6_isConsistent_11 ?_
      refine sn_iconst C 1 (by decide) dX6_isConsistent_14 ?_
      refine sn_ialde C (t) ((zU_o (by decide)).trans ht) rfl (by decide) (by omega) (by decide) dX6_isConsistent_15 ?_
      refine sn_icmp_ge C 57 (by omega) (by omega) dX6_isConsistent_16 (by decide) (fun c16 => ?_) (fun c16 => ?_)
      · refine sw_iload_1 C dX6_isConsistent_57 ?_
        exact sn_zret C (v := true) rfl hF dX6_isConsistent_58 (by decide) (by decide) (by rfl) rfl rfl rfl
      · refine sw_iload_1 C dX6_isConsistent_19 ?_
        refine sw_aload_0 C dX6_isConsistent_20 ?_
        refine sw_getR C (o' := 13) fX6_16 rfl (by decide) rfl rfl (by decide) dX6_isConsistent_21 ?_
        refine sw_iload_2 C dX6_isConsistent_24 ?_
        refine sn_iconst C 3 (by decide) dX6_isConsistent_25 ?_
        refine sn_cS2r C vX6_of lX6_61 dX6_isConsistent_26 (Nat.le_of_ble_eq_true rfl) (c_X6_of hl) (by decide) (by decide) (by decide) ?_
        refine sn_ialde C (S 13 (41 + 5 * i + 3)) (zU_o (by decide)) rfl (by decide) (by omega) (by decide) dX6_isConsistent_29 ?_
        refine sw_aload_0 C dX6_isConsistent_30 ?_
        refine sw_getR C (o' := 13) fX6_16 rfl (by decide) rfl rfl (by decide) dX6_isConsistent_31 ?_
        refine sw_iload_2 C dX6_isConsistent_34 ?_
        refine sn_iconst C 4 (by decide) dX6_isConsistent_35 ?_
        refine sn_cS2r C vX6_of lX6_61 dX6_isConsistent_36 (Nat.le_of_ble_eq_true rfl) (c_X6_of hl) (by decide) (by decide) (by decide) ?_
        refine sn_ialde C (S 13 (41 + 5 * i + 4)) (zU_o (by decide)) rfl (by decide) (by omega) (by decide) dX6_isConsistent_39 ?_
        refine sn_iand C dX6_isConsistent_40 ?_
        refine sn_if_ne C 48 (by rw [hcl i (by omega)]; decide) dX6_isConsistent_41 (by decide) (fun c41 => ?_) (fun c41 => ?_)
        · exact absurd (hcl i (by omega)) c41
        · refine sn_iconst C 1 (by decide) dX6_isConsistent_44 ?_
          refine sw_goto C 49 dX6_isConsistent_45 (by decide) ?_
          refine sn_iand C dX6_isConsistent_49 ?_
          refine sw_istore_1 C rfl dX6_isConsistent_50 ?_
          refine sn_iinc_2 C rfl dX6_isConsistent_51 ?_
          refine sw_goto C 9 dX6_isConsistent_54 (by decide) ?_
          exact ih9 (i + 1)  (by omega)  (by omega)
  exact L9 _ 0  (by omega)  (Nat.lt_succ_self _)
