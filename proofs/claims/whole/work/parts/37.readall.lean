set_option maxRecDepth 100000 in
set_option maxHeartbeats 4000000 in
theorem c_X4_readAll {l : Launch} (hl : l.stackTraces = false) {G : zG} {S : zS} {J : Int64} {E : UInt64} (htx : zTxt S) : nCR l G mX4_readAll 6 0 0 [.ref 5] S J E (some (zi (zRead 60 0 (zU S 5 5 0)).1)) (zRead 60 0 (zU S 5 5 0)).2 J E := by
  refine nCR.of hl (by decide) rfl (Nat.le_of_ble_eq_true rfl) (ls := [some (.ref 5), none, none]) rfl (fun X C hF hX => ?_)
  subst hX
  have htx0 : zTxt (zU S 5 5 0) := ⟨by rw [zU_j (by decide)]; exact htx.1, fun k hk => by rw [zU_o (by decide)]; exact htx.2 k hk⟩
  refine sw_aload_0 C dX4_readAll_0 ?_
  refine sn_iconst C 0 (by decide) dX4_readAll_1 ?_
  refine sn_putI C fX4_29 rfl (by decide) rfl rfl dX4_readAll_2 ?_
  refine sn_iconst C 0 (by decide) dX4_readAll_5 ?_
  refine sw_istore_1 C rfl dX4_readAll_6 ?_
  have L7 : ∀ (kM i : Nat) (Q : zS) (p : Nat) (u : Option Value), i ≤ 60 → (Q 5 5 = i) → (zTxt Q) → (p ≤ Q 5 1) → (zRead (60 - i) p Q = zRead 60 0 (zU S 5 5 0)) → 60 - i < kM → SN G X 0 0 7 [some (.ref 5), some (zi p), u] [] Q J E := by
    intro kM
    induction kM with
    | zero => intro i Q p u _ _ _ _ _ hkM; exact absurd hkM (by omega)
    | succ kM ih7 =>
      intro i Q p u hi hc ht hp hq hkM
      have hl60 := ht.1
      obtain ⟨kd, hkd⟩ : ∃ k, (zFur Q p).1 = k := ⟨_, rfl⟩
      have hk10 : kd < 10 := hkd ▸ zFur_lt Q p
      obtain ⟨⟨ok, rr, mm, ff, ss⟩, hT⟩ : ∃ T, zMatch Q kd p = T := ⟨_, rfl⟩
      obtain ⟨⟨ok9, r9, m9, f9, s9⟩, hT9⟩ : ∃ T, zMatch Q 9 p = T := ⟨_, rfl⟩
      have hml : rr ≤ Q 5 1 := by have := zMatch_len (S := Q) (k := kd) hp; rw [hT] at this; exact this
      have hmm := zMmem_s hT
      have hmm9 := zMmem_s hT9
      have htx2 : zTxt (zScr (zKc Q kd ff ss) rr 1 mm ff ss) := ⟨by rw [zScr_at (Or.inr (by decide)), zKc_o (by decide) (by decide) (by decide) (Or.inr (by decide))]; exact ht.1, fun k hk => by rw [zScr_at (Or.inl (by decide)), zKc_o (by decide) (by decide) (by decide) (Or.inl (by decide))]; exact ht.2 k hk⟩
      have hq2 := fun hi : i < 60 => (congrArg (fun k => zRead k p Q) (show 60 - i = 60 - (i + 1) + 1 by omega)).trans (zRead_s (k := 60 - (i + 1)) hkd hT)
      refine sw_aload_0 C dX4_readAll_7 ?_
      refine sn_getI C fX4_29 rfl (by decide) rfl dX4_readAll_8 ?_
      refine sn_bipush C 60 (by decide) dX4_readAll_11 ?_
      refine sn_icmp_ge C 87 (by omega) (by omega) dX4_readAll_13 (by decide) (fun c13 => ?_) (fun c13 => ?_)
      · refine sw_iload_1 C dX4_readAll_87 ?_
        exact sn_iret C rfl hF dX4_readAll_88 (by decide) (by decide) (by rw [show 60 - i = 0 from by omega] at hq; rw [← hq]; rfl) (by rw [show 60 - i = 0 from by omega] at hq; rw [← hq]; rfl) rfl rfl
      · refine sw_aload_0 C dX4_readAll_16 ?_
        refine sw_iload_1 C dX4_readAll_17 ?_
        rw [show zIn Q = zIn (zScr Q (Q 5 6) (Q 5 7) (Q 5 8) (Q 5 9) (Q 5 10)) from by rw [zScr_self]]
        refine sn_cV1r C vX4_furthestKind lX4_48 rfl (by decide) rfl rfl dX4_readAll_18 (Nat.le_of_ble_eq_true rfl) (c_X4_furthestKind (r := Q 5 6) (c := Q 5 7) (m := Q 5 8) (f := Q 5 9) (s := Q 5 10) hl ht hp) (by decide) (by decide) (by decide) ?_
        rw [hkd, hmm9]
        refine sw_istore_2 C rfl dX4_readAll_21 ?_
        refine sw_aload_0 C dX4_readAll_22 ?_
        refine sw_iload_2 C dX4_readAll_23 ?_
        refine sw_iload_1 C dX4_readAll_24 ?_
        refine sn_cV2v C vX4_match lX4_52 rfl (by decide) rfl rfl dX4_readAll_25 (Nat.le_of_ble_eq_true rfl) (c_X4_match hl ht hk10 hp) (by decide) (by decide) (by decide) ?_
        rw [hmm]
        refine sw_aload_0 C dX4_readAll_28 ?_
        refine sn_getIe C (ok.toNat) zScr_g7 fX4_35 rfl (by decide) rfl dX4_readAll_29 ?_
        refine sn_if_neB C 40 dX4_readAll_32 (by decide) (fun c32 => ?_) (fun c32 => ?_)
        · subst c32
          refine sw_aload_0 C dX4_readAll_40 ?_
          refine sw_iload_2 C dX4_readAll_41 ?_
          refine sn_cV1v C vX4_keepCommand lX4_56 rfl (by decide) rfl rfl dX4_readAll_42 (Nat.le_of_ble_eq_true rfl) (c_X4_keepCommand hl ht hk10 (by omega)) (by decide) (by decide) (by decide) ?_
          refine sw_aload_0 C dX4_readAll_45 ?_
          refine sn_getIe C (rr) zScr_g6 fX4_32 rfl (by decide) rfl dX4_readAll_46 ?_
          refine sw_aload_0 C dX4_readAll_49 ?_
          refine sn_getIe C (Q 5 1) (by rw [zScr_at (Or.inr (by decide)), zKc_o (by decide) (by decide) (by decide) (Or.inr (by decide))]) fX4_15 rfl (by decide) rfl dX4_readAll_50 ?_
          refine sn_icmp_ne C 58 (by omega) (by omega) dX4_readAll_53 (by decide) (fun c53 => ?_) (fun c53 => ?_)
          · refine sw_aload_0 C dX4_readAll_58 ?_
            refine sw_getR C (o' := 6) fX4_9 rfl (by decide) rfl rfl (by decide) dX4_readAll_59 ?_
            refine sw_aload_0 C dX4_readAll_62 ?_
            refine sn_getIe C (rr) zScr_g6 fX4_32 rfl (by decide) rfl dX4_readAll_63 ?_
            refine sn_calde C (Q 6 rr) (by rw [zScr_at (Or.inl (by decide)), zKc_o (by decide) (by decide) (by decide) (Or.inl (by decide))]) rfl (by decide) (by omega) (by decide) dX4_readAll_66 ?_
            refine sn_bipush C 59 (by decide) dX4_readAll_67 ?_
            refine sn_icmp_eq C 77 (by have := ht.2 rr (by omega); omega) (by decide) dX4_readAll_69 (by decide) (fun c69 => ?_) (fun c69 => ?_)
            · refine sw_aload_0 C dX4_readAll_77 ?_
              refine sn_getIe C (rr) zScr_g6 fX4_32 rfl (by decide) rfl dX4_readAll_78 ?_
              refine sn_iconst C 1 (by decide) dX4_readAll_81 ?_
              refine sn_iadd C dX4_readAll_82 ?_
              refine sw_istore_1 C rfl dX4_readAll_83 ?_
              refine sw_goto C 7 dX4_readAll_84 (by decide) ?_
              exact ih7 (i + 1) _ _ _ (by omega) (by rw [zScr_at (Or.inr (by decide)), zKc_n, hc]) htx2 (by rw [zScr_at (Or.inr (by decide)), zKc_o (by decide) (by decide) (by decide) (Or.inr (by decide))]; omega) (by rw [hq2 (by omega), if_neg (by simp), if_neg c53, if_pos c69] at hq; exact hq) (by omega)
            · refine sw_aload_0 C dX4_readAll_72 ?_
              refine sn_getIe C (rr) zScr_g6 fX4_32 rfl (by decide) rfl dX4_readAll_73 ?_
              exact sn_iret C rfl hF dX4_readAll_76 (by decide) (by decide) (by rw [hq2 (by omega), if_neg (by simp), if_neg c53, if_neg c69] at hq; rw [← hq]) (by rw [hq2 (by omega), if_neg (by simp), if_neg c53, if_neg c69] at hq; rw [← hq]; rfl) rfl rfl
          · refine sn_iconst C 4294967295 (by decide) dX4_readAll_56 ?_
            exact sn_iret C rfl hF dX4_readAll_57 (by decide) (by decide) (by rw [hq2 (by omega), if_neg (by simp), if_pos c53] at hq; rw [← hq]) (by rw [hq2 (by omega), if_neg (by simp), if_pos c53] at hq; rw [← hq]; rfl) rfl rfl
        · have hok : ok = false := by simpa using c32
          refine sw_aload_0 C dX4_readAll_35 ?_
          refine sn_getIe C (rr) zScr_g6 fX4_32 rfl (by decide) rfl dX4_readAll_36 ?_
          exact sn_iret C rfl hF dX4_readAll_39 (by decide) (by decide) (by rw [hq2 (by omega), if_pos hok] at hq; rw [← hq]) (by rw [hq2 (by omega), if_pos hok] at hq; rw [← hq]) rfl rfl
  exact L7 _ 0 _ _ _ (by omega) (by exact zU_s) htx0 (Nat.zero_le _) rfl (Nat.lt_succ_self _)
