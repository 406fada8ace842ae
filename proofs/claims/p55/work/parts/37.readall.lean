/-- what the reading leaves of its own number of commands: with none kept, the one before -/
def zFx (S R : zS) : zS := if R 5 5 = 0 then zU R 5 5 (S 5 5) else R
theorem zFx_o {S R : zS} {a b : Nat} (h : a ≠ 5 ∨ b ≠ 5) : zFx S R a b = R a b := by
  unfold zFx
  split
  · rcases h with h | h
    · exact zU_o h
    · exact zU_j h
  · rfl
theorem zFx_n {S R : zS} (h : R 5 5 ≠ 0) : zFx S R = R := by unfold zFx; rw [if_neg h]
theorem zU5_self {Q : zS} {i : Nat} (h : Q 5 5 = i) : zU Q 5 5 i = Q := by
  funext x y
  unfold zU
  by_cases h2 : x = 5 ∧ y = 5
  · obtain ⟨rfl, rfl⟩ := h2; simp [h]
  · simp [h2]
theorem zU5_u {Q : zS} {i j : Nat} : zU (zU Q 5 5 i) 5 5 j = zU Q 5 5 j := by
  funext x y
  unfold zU
  by_cases h2 : x = 5 ∧ y = 5
  · obtain ⟨rfl, rfl⟩ := h2; simp
  · simp [h2]
theorem zDig_5 {Q : zS} {c : Nat} : ∀ k p v, zDig (zU Q 5 5 c) k p v = zDig Q k p v := by
  have h6 : ∀ x, zU Q 5 5 c 6 x = Q 6 x := fun x => zU_o (by decide)
  have h1 : zU Q 5 5 c 5 1 = Q 5 1 := zU_j (by decide)
  intro k
  induction k with
  | zero => intro p v; rfl
  | succ k ih =>
    intro p v
    have hd : zDgt (zU Q 5 5 c) p = zDgt Q p := by unfold zDgt; rw [h6, h1]
    rw [zDig, zDig, hd, h6, ih]
theorem zTake_5 {Q : zS} {c w r m f s : Nat} : zTake (zU Q 5 5 c) w r m f s = zTake Q w r m f s := by
  have h6 : ∀ x, zU Q 5 5 c 6 x = Q 6 x := fun x => zU_o (by decide)
  have h1 : zU Q 5 5 c 5 1 = Q 5 1 := zU_j (by decide)
  unfold zTake
  rw [zDig_5, h6, h1]
theorem zMt_5 {Q : zS} {c k : Nat} : ∀ n i r m f s, zMt (zU Q 5 5 c) k n i r m f s = zMt Q k n i r m f s := by
  intro n
  induction n with
  | zero => intros; rfl
  | succ n ih => intro i r m f s; rw [zMt, zMt, zTake_5, ih]
theorem zMatch_5 {Q : zS} {c k p : Nat} : zMatch (zU Q 5 5 c) k p = zMatch Q k p := zMt_5 _ _ _ _ _ _
theorem zFur_5 {Q : zS} {c p : Nat} : zFur (zU Q 5 5 c) p = zFur Q p := by
  unfold zFur
  congr 1
  funext k w
  rw [zMatch_5]
/-- with the number of commands as it stood and as it is counted: the same, once the old one is put back -/
theorem zFx_scr {S Q : zS} {i r c m f s : Nat} (h0 : i = 0 → Q 5 5 = S 5 5) (h1 : i ≠ 0 → Q 5 5 = i) : zFx S (zScr (zU Q 5 5 i) r c m f s) = zScr Q r c m f s := by
  unfold zFx
  rw [zScr_at (Or.inr (by decide)), zU_s]
  by_cases hi : i = 0
  · rw [if_pos hi, zScr_off (Or.inr (by decide)), zU5_u, ← h0 hi, zU5_self rfl]
  · rw [if_neg hi, zU5_self (h1 hi)]

set_option maxRecDepth 100000 in
set_option maxHeartbeats 4000000 in
theorem c_X4_readAll {l : Launch} (hl : l.stackTraces = false) {G : zG} {S : zS} {J : Int64} {E : UInt64} (htx : zTxt S) : nCR l G mX4_readAll 6 0 0 [.ref 5] S J E (some (zi (zRead 60 0 (zU S 5 5 0)).1)) (zFx S (zRead 60 0 (zU S 5 5 0)).2) J E := by
  refine nCR.of hl (by decide) rfl (Nat.le_of_ble_eq_true rfl) (ls := [some (.ref 5), none, none, none]) rfl (fun X C hF hX => ?_)
  subst hX
  refine sn_iconst C 0 (by decide) dX4_readAll_0 ?_
  refine sw_istore_1 C rfl dX4_readAll_1 ?_
  refine sn_iconst C 0 (by decide) dX4_readAll_2 ?_
  refine sw_istore_2 C rfl dX4_readAll_3 ?_
  have L4 : ∀ (kM i : Nat) (Q : zS) (p : Nat) (u : Option Value), i ≤ 60 → (i = 0 → Q 5 5 = S 5 5) → (i ≠ 0 → Q 5 5 = i) → (zTxt Q) → (p ≤ Q 5 1) → (zRead (60 - i) p (zU Q 5 5 i) = zRead 60 0 (zU S 5 5 0)) → 60 - i < kM → SN G X 0 0 4 [some (.ref 5), some (zi p), some (zi i), u] [] Q J E := by
    intro kM
    induction kM with
    | zero => intro i Q p u _ _ _ _ _ _ hkM; exact absurd hkM (by omega)
    | succ kM ih4 =>
      intro i Q p u hi hz hc ht hp hq hkM
      have hl60 := ht.1
      obtain ⟨kd, hkd⟩ : ∃ k, (zFur Q p).1 = k := ⟨_, rfl⟩
      have hk10 : kd < 10 := hkd ▸ zFur_lt Q p
      obtain ⟨⟨ok, rr, mm, ff, ss⟩, hT⟩ : ∃ T, zMatch Q kd p = T := ⟨_, rfl⟩
      obtain ⟨⟨ok9, r9, m9, f9, s9⟩, hT9⟩ : ∃ T, zMatch Q 9 p = T := ⟨_, rfl⟩
      have hml : rr ≤ Q 5 1 := by have := zMatch_len (S := Q) (k := kd) hp; rw [hT] at this; exact this
      have hmm := zMmem_s hT
      have hmm9 := zMmem_s hT9
      have hkq : zKq i Q kd ff ss = zKc (zU Q 5 5 i) kd ff ss := zKq_c
      have hkn : zKc (zU Q 5 5 i) kd ff ss 5 5 = i + 1 := by rw [zKc_n, zU_s]
      have hk1 : zKc (zU Q 5 5 i) kd ff ss 5 1 = Q 5 1 := by rw [zKc_o (by decide) (by decide) (by decide) (Or.inr (by decide)), zU_j (by decide)]
      have hk6 : ∀ x, zKc (zU Q 5 5 i) kd ff ss 6 x = Q 6 x := fun x => by rw [zKc_o (by decide) (by decide) (by decide) (Or.inl (by decide)), zU_o (by decide)]
      have hfk : zFx S (zScr (zKc (zU Q 5 5 i) kd ff ss) rr 1 mm ff ss) = zScr (zKc (zU Q 5 5 i) kd ff ss) rr 1 mm ff ss := zFx_n (by rw [zScr_at (Or.inr (by decide)), hkn]; omega)
      have htx2 : zTxt (zScr (zKc (zU Q 5 5 i) kd ff ss) rr 1 mm ff ss) := ⟨by rw [zScr_at (Or.inr (by decide)), hk1]; exact ht.1, fun k hk => by rw [zScr_at (Or.inl (by decide)), hk6]; exact ht.2 k hk⟩
      have hq2 := fun hi : i < 60 => (congrArg (fun k => zRead k p (zU Q 5 5 i)) (show 60 - i = 60 - (i + 1) + 1 by omega)).trans (zRead_s (k := 60 - (i + 1)) ((congrArg Prod.fst zFur_5).trans hkd) (zMatch_5.trans hT))
      have e51 : zU Q 5 5 i 5 1 = Q 5 1 := zU_j (by decide)
      have e6r : zU Q 5 5 i 6 rr = Q 6 rr := zU_o (by decide)
      rw [e51, e6r] at hq2
      refine sw_iload_2 C dX4_readAll_4 ?_
      refine sn_bipush C 60 (by decide) dX4_readAll_5 ?_
      refine sn_icmp_ge C 85 (by omega) (by omega) dX4_readAll_7 (by decide) (fun c7 => ?_) (fun c7 => ?_)
      · refine sw_iload_1 C dX4_readAll_85 ?_
        have e60 : zU Q 5 5 i = Q := zU5_self (hc (by omega))
        rw [show 60 - i = 0 from by omega, e60] at hq
        exact sn_iret C rfl hF dX4_readAll_86 (by decide) (by decide) (by rw [← hq]; rfl) (by rw [← hq]; exact (zFx_n (by show Q 5 5 ≠ 0; rw [hc (by omega)]; omega)).symm) rfl rfl
      · have hi60 : i < 60 := by omega
        have hq2 := hq2 hi60
        refine sw_aload_0 C dX4_readAll_10 ?_
        refine sw_iload_1 C dX4_readAll_11 ?_
        rw [show zIn Q = zIn (zScr Q (Q 5 6) (Q 5 7) (Q 5 8) (Q 5 9) (Q 5 10)) from by rw [zScr_self]]
        refine sn_cV1r C vX4_furthestKind lX4_48 rfl (by decide) rfl rfl dX4_readAll_12 (Nat.le_of_ble_eq_true rfl) (c_X4_furthestKind (r := Q 5 6) (c := Q 5 7) (m := Q 5 8) (f := Q 5 9) (s := Q 5 10) hl ht hp) (by decide) (by decide) (by decide) ?_
        rw [hkd, hmm9]
        refine sw_istore_3 C rfl dX4_readAll_15 ?_
        refine sw_aload_0 C dX4_readAll_16 ?_
        refine sw_iload_3 C dX4_readAll_17 ?_
        refine sw_iload_1 C dX4_readAll_18 ?_
        refine sn_cV2v C vX4_match lX4_52 rfl (by decide) rfl rfl dX4_readAll_19 (Nat.le_of_ble_eq_true rfl) (c_X4_match hl ht hk10 hp) (by decide) (by decide) (by decide) ?_
        rw [hmm]
        refine sw_aload_0 C dX4_readAll_22 ?_
        refine sn_getIe C (ok.toNat) zScr_g7 fX4_35 rfl (by decide) rfl dX4_readAll_23 ?_
        refine sn_if_neB C 34 dX4_readAll_26 (by decide) (fun c26 => ?_) (fun c26 => ?_)
        · subst c26
          rw [if_neg (by simp)] at hq2
          refine sw_aload_0 C dX4_readAll_34 ?_
          refine sw_iload_2 C dX4_readAll_35 ?_
          refine sw_iload_3 C dX4_readAll_36 ?_
          refine sn_cV2v C vX4_keepCommand lX4_56 rfl (by decide) rfl rfl dX4_readAll_37 (Nat.le_of_ble_eq_true rfl) (c_X4_keepCommand hl ht hk10 hi60) (by decide) (by decide) (by decide) ?_
          rw [hkq]
          refine sw_aload_0 C dX4_readAll_40 ?_
          refine sn_getIe C (rr) zScr_g6 fX4_32 rfl (by decide) rfl dX4_readAll_41 ?_
          refine sw_aload_0 C dX4_readAll_44 ?_
          refine sn_getIe C (Q 5 1) (by rw [zScr_at (Or.inr (by decide)), hk1]) fX4_15 rfl (by decide) rfl dX4_readAll_45 ?_
          refine sn_icmp_ne C 53 (by omega) (by omega) dX4_readAll_48 (by decide) (fun c48 => ?_) (fun c48 => ?_)
          · rw [if_neg c48] at hq2
            refine sw_aload_0 C dX4_readAll_53 ?_
            refine sw_getR C (o' := 6) fX4_9 rfl (by decide) rfl rfl (by decide) dX4_readAll_54 ?_
            refine sw_aload_0 C dX4_readAll_57 ?_
            refine sn_getIe C (rr) zScr_g6 fX4_32 rfl (by decide) rfl dX4_readAll_58 ?_
            refine sn_calde C (Q 6 rr) (by rw [zScr_at (Or.inl (by decide)), hk6]) rfl (by decide) (by omega) (by decide) dX4_readAll_61 ?_
            refine sn_bipush C 59 (by decide) dX4_readAll_62 ?_
            refine sn_icmp_eq C 72 (by have := ht.2 rr (by omega); omega) (by decide) dX4_readAll_64 (by decide) (fun c64 => ?_) (fun c64 => ?_)
            · rw [if_pos c64] at hq2
              refine sw_aload_0 C dX4_readAll_72 ?_
              refine sn_getIe C (rr) zScr_g6 fX4_32 rfl (by decide) rfl dX4_readAll_73 ?_
              refine sn_iconst C 1 (by decide) dX4_readAll_76 ?_
              refine sn_iadd C dX4_readAll_77 ?_
              refine sw_istore_1 C rfl dX4_readAll_78 ?_
              refine sn_iinc_2 C rfl dX4_readAll_79 ?_
              refine sw_goto C 4 dX4_readAll_82 (by decide) ?_
              exact ih4 (i + 1) _ _ _ (by omega) (fun h => absurd h (Nat.succ_ne_zero i)) (fun _ => by rw [zScr_at (Or.inr (by decide)), hkn]) htx2 (by rw [zScr_at (Or.inr (by decide)), hk1]; omega) (by rw [zU5_self (by rw [zScr_at (Or.inr (by decide)), hkn]), ← hq, hq2]; rfl) (by omega)
            · rw [if_neg c64] at hq2
              refine sw_aload_0 C dX4_readAll_67 ?_
              refine sn_getIe C (rr) zScr_g6 fX4_32 rfl (by decide) rfl dX4_readAll_68 ?_
              exact sn_iret C rfl hF dX4_readAll_71 (by decide) (by decide) (by rw [← hq, hq2]) (by rw [← hq, hq2]; exact hfk.symm) rfl rfl
          · rw [if_pos (show rr = Q 5 1 by omega)] at hq2
            refine sn_iconst C 4294967295 (by decide) dX4_readAll_51 ?_
            exact sn_iret C rfl hF dX4_readAll_52 (by decide) (by decide) (by rw [← hq, hq2]) (by rw [← hq, hq2]; exact hfk.symm) rfl rfl
        · have hok : ok = false := by simpa using c26
          rw [if_pos hok] at hq2
          refine sw_aload_0 C dX4_readAll_29 ?_
          refine sn_getIe C (rr) zScr_g6 fX4_32 rfl (by decide) rfl dX4_readAll_30 ?_
          exact sn_iret C rfl hF dX4_readAll_33 (by decide) (by decide) (by rw [← hq, hq2]) (by rw [← hq, hq2]; exact (zFx_scr hz hc).symm) rfl rfl
  exact L4 _ 0 _ _ _ (by omega) (fun _ => rfl) (fun h => absurd rfl h) htx (Nat.zero_le _) rfl (Nat.lt_succ_self _)
