/-! the law's loop -/
theorem nI_sub3 {L : Nat} (hL : L ≤ 1536) : (nI L - nI 3).toInt = (L : Int) - 3 := by
  rw [Int32.toInt_sub, nI_toInt (by omega), nI_toInt (by decide)]
  rw [Int.bmod_def]
  split <;> omega
theorem zLe3 {L i : Nat} (hL : L ≤ 1536) (hi : i ≤ 1600) (h : ¬ nI L - nI 3 < nI i) : i + 3 ≤ L := by
  rw [Int32.lt_iff_toInt_lt, nI_sub3 hL, nI_toInt (by omega)] at h
  omega
set_option maxRecDepth 100000 in
set_option maxHeartbeats 8000000 in
theorem zLoop {G : zG} {X : zX} {L : Nat} {xs : Nat → Int32} (W : zLw G X L xs) (hL : L ≤ 1536) (fin : ∀ (a b : Nat) (S : zS) (J : Int64) (E : UInt64) (ls : List (Option Value)), a ≤ 603072 → b ≤ 7211114 → SN G X a b 2944 ls [] S J E) : ∀ (f i a b : Nat) (S : zS) (J : Int64) (E : UInt64), L ≤ i + 3 * f + 2 → i ≤ 1540 → a + 25 * f ≤ 603072 → b + 850 * f ≤ 7211114 → zInv S S → SN G X a b 28 [some (.ref 400), some (.ref 0), some (.ref 12), some (.ref 23), some (.ref 24), some (zi i), none, none, none] [] S J E := by
  have hC := W.1
  have hZ := W.2.1
  have head : ∀ (i a b : Nat) (S : zS) (J : Int64) (E : UInt64), i ≤ 1540 → a ≤ 603072 → b ≤ 7211114 → (i + 3 ≤ L → SN G X a b 37 [some (.ref 400), some (.ref 0), some (.ref 12), some (.ref 23), some (.ref 24), some (zi i), none, none, none] [] S J E) → SN G X a b 28 [some (.ref 400), some (.ref 0), some (.ref 12), some (.ref 23), some (.ref 24), some (zi i), none, none, none] [] S J E := by
    intro i a b S J E hi ha hb k
    refine sw_iload_5 hC dL_law_28 ?_
    refine sw_aload_0 hC dL_law_30 ?_
    refine sw_slen hC hZ dL_law_31 ?_
    refine sn_iconst hC 3 (by decide) dL_law_32 ?_
    refine sw_isub hC dL_law_33 ?_
    exact sw_icmp_gt hC 2944 dL_law_34 (by decide) (fun _ => fin _ _ _ _ _ _ ha hb) (fun c => k (zLe3 hL (by omega) c))
  intro f
  induction f with
  | zero =>
    intro i a b S J E h1 h2 ha hb H
    exact head i a b S J E h2 (by omega) (by omega) (fun h => absurd h (by omega))
  | succ f ih =>
    intro i a b S J E h1 h2 ha hb H
    refine head i a b S J E h2 (by omega) (by omega) (fun hi => ?_)
    obtain ⟨x, hx, ex⟩ := zInt (xs i)
    refine sw_aload_0 hC dL_law_37 ?_
    refine sw_iload_5 hC dL_law_38 ?_
    refine sw_sld hC hZ (by omega) hL ex dL_law_40 ?_
    refine sn_bipush hC 63 (by decide) dL_law_41 ?_
    refine sn_iand hC dL_law_43 ?_
    have K : zGo G X a b i := fun a' b' S' J' E' q1 q2 H' => by
      refine sn_iinc_5 hC rfl dL_law_2938 ?_
      refine sw_goto hC 28 dL_law_2941 (by decide) ?_
      exact ih (i + 3) a' b' S' J' E' (by omega) (by omega) (by omega) (by omega) H'
    have hk64 : x &&& 63 < 64 := Nat.lt_of_le_of_lt Nat.and_le_right (by decide)
    have ha' : a + 25 ≤ 603072 := by omega
    have hb' : b + 850 ≤ 7211114 := by omega
    revert hk64
    generalize x &&& 63 = kk
    intro hk64
    match kk, hk64 with
    | 0, _ => exact sw_tableIn hC 268 dL_law_44 (by decide) (by decide) rfl (by decide) (cs_0 W H hi hL ha' hb' K)
    | 1, _ => exact sw_tableIn hC 336 dL_law_44 (by decide) (by decide) rfl (by decide) (cs_1 W H hi hL ha' hb' K)
    | 2, _ => exact sw_tableIn hC 404 dL_law_44 (by decide) (by decide) rfl (by decide) (cs_2 W H hi hL ha' hb' K)
    | 3, _ => exact sw_tableIn hC 472 dL_law_44 (by decide) (by decide) rfl (by decide) (cs_3 W H hi hL ha' hb' K)
    | 4, _ => exact sw_tableIn hC 540 dL_law_44 (by decide) (by decide) rfl (by decide) (cs_4 W H hi hL ha' hb' K)
    | 5, _ => exact sw_tableIn hC 608 dL_law_44 (by decide) (by decide) rfl (by decide) (cs_5 W H hi hL ha' hb' K)
    | 6, _ => exact sw_tableIn hC 683 dL_law_44 (by decide) (by decide) rfl (by decide) (cs_6 W H hi hL ha' hb' K)
    | 7, _ => exact sw_tableIn hC 739 dL_law_44 (by decide) (by decide) rfl (by decide) (cs_7 W H hi hL ha' hb' K)
    | 8, _ => exact sw_tableIn hC 807 dL_law_44 (by decide) (by decide) rfl (by decide) (cs_8 W H hi hL ha' hb' K)
    | 9, _ => exact sw_tableIn hC 863 dL_law_44 (by decide) (by decide) rfl (by decide) (cs_9 W H hi hL ha' hb' K)
    | 10, _ => exact sw_tableIn hC 876 dL_law_44 (by decide) (by decide) rfl (by decide) (cs_10 W H hi hL ha' hb' K)
    | 11, _ => exact sw_tableIn hC 932 dL_law_44 (by decide) (by decide) rfl (by decide) (cs_11 W H hi hL ha' hb' K)
    | 12, _ => exact sw_tableIn hC 988 dL_law_44 (by decide) (by decide) rfl (by decide) (cs_12 W H hi hL ha' hb' K)
    | 13, _ => exact sw_tableIn hC 1063 dL_law_44 (by decide) (by decide) rfl (by decide) (cs_13 W H hi hL ha' hb' K)
    | 14, _ => exact sw_tableIn hC 1119 dL_law_44 (by decide) (by decide) rfl (by decide) (cs_14 W H hi hL ha' hb' K)
    | 15, _ => exact sw_tableIn hC 1132 dL_law_44 (by decide) (by decide) rfl (by decide) (cs_15 W H hi hL ha' hb' K)
    | 16, _ => exact sw_tableIn hC 1188 dL_law_44 (by decide) (by decide) rfl (by decide) (cs_16 W H hi hL ha' hb' K)
    | 17, _ => exact sw_tableIn hC 1201 dL_law_44 (by decide) (by decide) rfl (by decide) (cs_17 W H hi hL ha' hb' K)
    | 18, _ => exact sw_tableIn hC 1214 dL_law_44 (by decide) (by decide) rfl (by decide) (cs_18 W H hi hL ha' hb' K)
    | 19, _ => exact sw_tableIn hC 1227 dL_law_44 (by decide) (by decide) rfl (by decide) (cs_19 W H hi hL ha' hb' K)
    | 20, _ => exact sw_tableIn hC 1283 dL_law_44 (by decide) (by decide) rfl (by decide) (cs_20 W H hi hL ha' hb' K)
    | 21, _ => exact sw_tableIn hC 1346 dL_law_44 (by decide) (by decide) rfl (by decide) (cs_21 W H hi hL ha' hb' K)
    | 22, _ => exact sw_tableIn hC 1402 dL_law_44 (by decide) (by decide) rfl (by decide) (cs_22 W H hi hL ha' hb' K)
    | 23, _ => exact sw_tableIn hC 1477 dL_law_44 (by decide) (by decide) rfl (by decide) (cs_23 W H hi hL ha' hb' K)
    | 24, _ => exact sw_tableIn hC 1552 dL_law_44 (by decide) (by decide) rfl (by decide) (cs_24 W H hi hL ha' hb' K)
    | 25, _ => exact sw_tableIn hC 1620 dL_law_44 (by decide) (by decide) rfl (by decide) (cs_25 W H hi hL ha' hb' K)
    | 26, _ => exact sw_tableIn hC 1676 dL_law_44 (by decide) (by decide) rfl (by decide) (cs_26 W H hi hL ha' hb' K)
    | 27, _ => exact sw_tableIn hC 1732 dL_law_44 (by decide) (by decide) rfl (by decide) (cs_27 W H hi hL ha' hb' K)
    | 28, _ => exact sw_tableIn hC 1788 dL_law_44 (by decide) (by decide) rfl (by decide) (cs_28 W H hi hL ha' hb' K)
    | 29, _ => exact sw_tableIn hC 1856 dL_law_44 (by decide) (by decide) rfl (by decide) (cs_29 W H hi hL ha' hb' K)
    | 30, _ => exact sw_tableIn hC 1924 dL_law_44 (by decide) (by decide) rfl (by decide) (cs_30 W H hi hL ha' hb' K)
    | 31, _ => exact sw_tableIn hC 1992 dL_law_44 (by decide) (by decide) rfl (by decide) (cs_31 W H hi hL ha' hb' K)
    | 32, _ => exact sw_tableIn hC 2048 dL_law_44 (by decide) (by decide) rfl (by decide) (cs_32 W H hi hL ha' hb' K)
    | 33, _ => exact sw_tableIn hC 2116 dL_law_44 (by decide) (by decide) rfl (by decide) (cs_33 W H hi hL ha' hb' K)
    | 34, _ => exact sw_tableIn hC 2184 dL_law_44 (by decide) (by decide) rfl (by decide) (cs_34 W H hi hL ha' hb' K)
    | 35, _ => exact sw_tableIn hC 2240 dL_law_44 (by decide) (by decide) rfl (by decide) (cs_35 W H hi hL ha' hb' K)
    | 36, _ => exact sw_tableIn hC 2296 dL_law_44 (by decide) (by decide) rfl (by decide) (cs_36 W H hi hL ha' hb' K)
    | 37, _ => exact sw_tableIn hC 2309 dL_law_44 (by decide) (by decide) rfl (by decide) (cs_37 W H hi hL ha' hb' K)
    | 38, _ => exact sw_tableIn hC 2322 dL_law_44 (by decide) (by decide) rfl (by decide) (cs_38 W H hi hL ha' hb' K)
    | 39, _ => exact sw_tableIn hC 2335 dL_law_44 (by decide) (by decide) rfl (by decide) (cs_39 W H hi hL ha' hb' K)
    | 40, _ => exact sw_tableIn hC 2400 dL_law_44 (by decide) (by decide) rfl (by decide) (cs_40 W H hi hL ha' hb' K)
    | 41, _ => exact sw_tableIn hC 2466 dL_law_44 (by decide) (by decide) rfl (by decide) (cs_41 W H hi hL ha' hb' K)
    | 42, _ => exact sw_tableIn hC 2479 dL_law_44 (by decide) (by decide) rfl (by decide) (cs_42 W H hi hL ha' hb' K)
    | 43, _ => exact sw_tableIn hC 2535 dL_law_44 (by decide) (by decide) rfl (by decide) (cs_43 W H hi hL ha' hb' K)
    | 44, _ => exact sw_tableIn hC 2591 dL_law_44 (by decide) (by decide) rfl (by decide) (cs_44 W H hi hL ha' hb' K)
    | 45, _ => exact sw_tableIn hC 2647 dL_law_44 (by decide) (by decide) rfl (by decide) (cs_45 W H hi hL ha' hb' K)
    | 46, _ => exact sw_tableIn hC 2705 dL_law_44 (by decide) (by decide) rfl (by decide) (cs_46 W H hi hL ha' hb' K)
    | 47, _ => exact sw_tableIn hC 2749 dL_law_44 (by decide) (by decide) rfl (by decide) (cs_47 W H hi hL ha' hb' K)
    | 48, _ => exact sw_tableIn hC 2793 dL_law_44 (by decide) (by decide) rfl (by decide) (cs_48 W H hi hL ha' hb' K)
    | 49, _ => exact sw_tableIn hC 2837 dL_law_44 (by decide) (by decide) rfl (by decide) (cs_49 W H hi hL ha' hb' K)
    | 50, _ => exact sw_tableIn hC 2881 dL_law_44 (by decide) (by decide) rfl (by decide) (cs_50 W H hi hL ha' hb' K)
    | 51, _ => exact sw_tableIn hC 2894 dL_law_44 (by decide) (by decide) rfl (by decide) (cs_51 W H hi hL ha' hb' K)
    | 52, _ => exact sw_tableOut hC 2938 dL_law_44 (Or.inr (by decide)) (by decide) (K _ _ _ _ _ (by omega) (by omega) H)
    | 53, _ => exact sw_tableOut hC 2938 dL_law_44 (Or.inr (by decide)) (by decide) (K _ _ _ _ _ (by omega) (by omega) H)
    | 54, _ => exact sw_tableOut hC 2938 dL_law_44 (Or.inr (by decide)) (by decide) (K _ _ _ _ _ (by omega) (by omega) H)
    | 55, _ => exact sw_tableOut hC 2938 dL_law_44 (Or.inr (by decide)) (by decide) (K _ _ _ _ _ (by omega) (by omega) H)
    | 56, _ => exact sw_tableOut hC 2938 dL_law_44 (Or.inr (by decide)) (by decide) (K _ _ _ _ _ (by omega) (by omega) H)
    | 57, _ => exact sw_tableOut hC 2938 dL_law_44 (Or.inr (by decide)) (by decide) (K _ _ _ _ _ (by omega) (by omega) H)
    | 58, _ => exact sw_tableOut hC 2938 dL_law_44 (Or.inr (by decide)) (by decide) (K _ _ _ _ _ (by omega) (by omega) H)
    | 59, _ => exact sw_tableOut hC 2938 dL_law_44 (Or.inr (by decide)) (by decide) (K _ _ _ _ _ (by omega) (by omega) H)
    | 60, _ => exact sw_tableOut hC 2938 dL_law_44 (Or.inr (by decide)) (by decide) (K _ _ _ _ _ (by omega) (by omega) H)
    | 61, _ => exact sw_tableOut hC 2938 dL_law_44 (Or.inr (by decide)) (by decide) (K _ _ _ _ _ (by omega) (by omega) H)
    | 62, _ => exact sw_tableOut hC 2938 dL_law_44 (Or.inr (by decide)) (by decide) (K _ _ _ _ _ (by omega) (by omega) H)
    | 63, _ => exact sw_tableOut hC 2938 dL_law_44 (Or.inr (by decide)) (by decide) (K _ _ _ _ _ (by omega) (by omega) H)
    | n + 64, h => exact absurd h (by omega)
/-! the start of both -/
def S0 : zS := fun a b => if a = 0 then (if b = 8 then 4294967295 else if b = 9 then 4294967295 else 0) else if a = 10 then (if b = 99 then 16 else 0) else if a = 12 then (if b = 2 then 4294967295 else if b = 3 then 4294967295 else 0) else if a = 21 then wW b else if a = 22 then wA b else 0
theorem S0_o {a b : Nat} (h0 : a ≠ 0) (h10 : a ≠ 10) (h12 : a ≠ 12) (h21 : a ≠ 21) (h22 : a ≠ 22) : S0 a b = 0 := by
  unfold S0; rw [if_neg h0, if_neg h10, if_neg h12, if_neg h21, if_neg h22]
theorem S0_z {a b : Nat} (h0 : 25 ≤ a) : S0 a b = 0 := S0_o (by omega) (by omega) (by omega) (by omega) (by omega)
theorem zInv0 : zInv S0 S0 := by
  have z13 : ∀ b, S0 13 b = 0 := fun b => S0_o (by decide) (by decide) (by decide) (by decide) (by decide)
  have z17 : ∀ b, S0 17 b = 0 := fun b => S0_o (by decide) (by decide) (by decide) (by decide) (by decide)
  have z15 : ∀ b, S0 15 b = 0 := fun b => S0_o (by decide) (by decide) (by decide) (by decide) (by decide)
  refine ⟨⟨⟨?_, ?_, ?_, ?_, ?_, fun e he => ⟨?_, ?_, ?_⟩, fun r hr => ⟨?_, fun h => ?_, ?_, ?_, ?_⟩, fun r hr e he => ?_⟩, ⟨?_, ?_, fun e he => ⟨?_, ?_, ?_⟩, fun e k he h => ?_, ?_, fun r hr => ⟨?_, ?_, ?_, ?_⟩, fun r hr => ?_⟩, ⟨?_, ?_, ?_, fun j hj => ?_⟩, fun r hr => ?_, fun j hj r hr => ?_⟩, ⟨?_, ?_, fun h => ?_⟩, fun r hr => ?_, ⟨?_, ?_, ?_, fun i => ?_⟩, ⟨?_, fun i hi => ?_⟩, fun i => ?_, ⟨?_, ?_, fun k hk => ⟨?_, ?_⟩⟩, ⟨fun k hk => ?_, fun k hk => ?_⟩, ?_, ?_, ?_, ?_⟩
  · rw [z13, S0_z (by decide)]
  · rw [z13, S0_z (by decide)]
  · rw [z13, S0_z (by decide)]
  · rw [z13, S0_z (by decide)]
  · rw [z13, S0_z (by decide)]
  · rw [z13, S0_z (by decide)]
  · rw [z13, S0_z (by decide)]
  · rw [z13, S0_z (by decide)]
  · rw [z13, S0_z (by omega)]
  · rw [S0_z (by decide)] at h; omega
  · rw [z13, S0_z (by omega)]
  · rw [z13, S0_z (by omega)]
  · rw [z13, S0_z (by omega)]
  · rw [z13, S0_z (by omega)]
  · rw [S0_z (by decide)]; decide
  · rw [S0_z (by decide)]; decide
  · rw [S0_z (by decide)]; decide
  · rw [S0_z (by decide)]; decide
  · rw [S0_z (by decide)]; decide
  · rw [S0_z (by decide)] at h; rw [Nat.zero_testBit] at h; cases h
  · rw [S0_z (by decide)]
    have e : ∀ n, zIt (fun e s => s + zpop (S0 (25 + 2) e)) n 0 = 0 := by
      intro n
      induction n with
      | zero => rfl
      | succ n ih => rw [zIt, ih, S0_z (by decide)]; rfl
    rw [e]
  · rw [S0_z (by omega)]; decide
  · rw [S0_z (by omega)]; decide
  · rw [S0_z (by omega)]; decide
  · rw [S0_z (by omega)]; decide
  · rw [S0_z (by decide)] at hr; omega
  · rfl
  · decide
  · decide
  · exact absurd hj (Nat.not_lt_zero _)
  · rw [z13]; decide
  · show S0 17 _ ≤ 1
    rw [z17]; decide
  · rfl
  · decide
  · exact absurd rfl h
  · rw [z15]; decide
  · rfl
  · exact Or.inl rfl
  · decide
  · rw [S0_o (by decide) (by decide) (by decide) (by decide) (by decide)]; decide
  · rfl
  · exact absurd hi (Nat.not_lt_zero _)
  · rw [S0_o (by decide) (by decide) (by decide) (by decide) (by decide)]; decide
  · rfl
  · decide
  · rw [S0_o (by decide) (by decide) (by decide) (by decide) (by decide), S0_o (by decide) (by decide) (by decide) (by decide) (by decide)]
  · rw [S0_o (by decide) (by decide) (by decide) (by decide) (by decide)]; decide
  · rfl
  · rfl
  · rfl
  · rfl
  · exact Or.inr rfl
  · exact Or.inr rfl
