theorem zDig_lt {S : zS} : ∀ (k p v : Nat), (zDig S k p v).2 < (v + 1) * 10 ^ k := by
  intro k
  induction k with
  | zero => intro p v; simp [zDig]
  | succ k ih =>
    intro p v
    rw [zDig]
    split
    · rename_i h
      have h2 := ih (p + 1) (v * 10 + (S 6 p - 48))
      have h3 : S 6 p - 48 ≤ 9 := by unfold zDgt at h; simp only [Bool.and_eq_true, decide_eq_true_eq] at h; omega
      refine Nat.lt_of_lt_of_le h2 ?_
      rw [Nat.pow_succ, Nat.mul_comm (10 ^ k) 10, ← Nat.mul_assoc]
      exact Nat.mul_le_mul_right _ (by omega)
    · have h1 : 1 ≤ 10 ^ (k + 1) := Nat.one_le_pow _ _ (by decide)
      calc v < (v + 1) * 1 := by omega
        _ ≤ (v + 1) * 10 ^ (k + 1) := Nat.mul_le_mul_left _ h1
theorem zTake_lt {S : zS} {w r m f s : Nat} (hf : f < 100) (hs : s < 100) : (zTake S w r m f s).2.2.2.1 < 100 ∧ (zTake S w r m f s).2.2.2.2 < 100 := by
  unfold zTake
  split
  · have h : (zDig S (if w = 64 then 2 else 1) r 0).2 < 100 := by
      split
      · have := zDig_lt (S := S) 2 r 0; omega
      · have := zDig_lt (S := S) 1 r 0; omega
    constructor <;> (dsimp only; split <;> assumption)
  · split <;> exact ⟨hf, hs⟩
theorem zMt_lt {S : zS} {k : Nat} : ∀ (n i r m f s : Nat), f < 100 → s < 100 → (zMt S k n i r m f s).2.2.2.1 < 100 ∧ (zMt S k n i r m f s).2.2.2.2 < 100 := by
  intro n
  induction n with
  | zero => intro i r m f s hf hs; exact ⟨hf, hs⟩
  | succ n ih =>
    intro i r m f s hf hs
    have h := zTake_lt (S := S) (w := zFch k i) (r := r) (m := m) hf hs
    rw [zMt]
    split
    · exact ih _ _ _ _ _ h.1 h.2
    · exact h
theorem zMatch_lt {S : zS} {k p : Nat} : (zMatch S k p).2.2.2.1 < 100 ∧ (zMatch S k p).2.2.2.2 < 100 := zMt_lt _ _ _ _ _ _ (by decide) (by decide)
theorem zKc_7 {Q : zS} {k f s i : Nat} : zKc Q k f s 7 i = if i = Q 5 5 then k else Q 7 i := by simp [zKc, zU]
theorem zKc_8 {Q : zS} {k f s i : Nat} : zKc Q k f s 8 i = if i = Q 5 5 then (if k = 8 then 1 else f) else Q 8 i := by simp [zKc, zU]
theorem zKc_9 {Q : zS} {k f s i : Nat} : zKc Q k f s 9 i = if i = Q 5 5 then s else Q 9 i := by simp [zKc, zU]
theorem zKc_cmd {Q : zS} {k f s : Nat} (h : zCmd Q) (hk : k < 10) (hf : f < 100) (hs : s < 100) (hc : Q 5 5 < 60) : zCmd (zKc Q k f s) := by
  obtain ⟨h1, h2⟩ := h
  refine ⟨by rw [zKc_n]; omega, fun i hi => ?_⟩
  rw [zKc_n] at hi
  rw [zKc_7, zKc_8, zKc_9]
  by_cases h : i = Q 5 5
  · rw [if_pos h, if_pos h, if_pos h]
    refine ⟨hk, ?_, by omega⟩
    split <;> omega
  · rw [if_neg h, if_neg h, if_neg h]
    exact h2 i (by omega)
theorem zCmd.same2 {S Q : zS} (h : zCmd S) (h5 : Q 5 5 = S 5 5) (hs : ∀ a b, a ≠ 5 → Q a b = S a b) : zCmd Q := by
  obtain ⟨h1, h2⟩ := h
  refine ⟨by rw [h5]; exact h1, fun i hi => ?_⟩
  rw [h5] at hi
  rw [hs 7 i (by decide), hs 8 i (by decide), hs 9 i (by decide)]
  exact h2 i hi
/-- what the reading keeps -/
theorem zRead_inv : ∀ (k p : Nat) (Q : zS), zTxt Q → p ≤ Q 5 1 → zCmd Q → Q 5 5 + k ≤ 60 → zCmd (zRead k p Q).2 ∧ ((zRead k p Q).1 ≤ 60 ∨ (zRead k p Q).1 = 4294967295) ∧ (∀ a b, a ≠ 5 → a ≠ 7 → a ≠ 8 → a ≠ 9 → (zRead k p Q).2 a b = Q a b) ∧ (zRead k p Q).2 5 1 = Q 5 1 := by
  intro k
  induction k with
  | zero => intro p Q ht hp hc hk; exact ⟨hc, Or.inl (Nat.le_trans hp ht.1), fun _ _ _ _ _ _ => rfl, rfl⟩
  | succ k ih =>
    intro p Q ht hp hc hk
    obtain ⟨kd, hkd⟩ : ∃ k, (zFur Q p).1 = k := ⟨_, rfl⟩
    have hk10 : kd < 10 := hkd ▸ zFur_lt Q p
    obtain ⟨⟨ok, rr, mm, ff, ss⟩, hT⟩ : ∃ T, zMatch Q kd p = T := ⟨_, rfl⟩
    have hml : rr ≤ Q 5 1 := by have := zMatch_len (S := Q) (k := kd) hp; rw [hT] at this; exact this
    have hlt : ff < 100 ∧ ss < 100 := by have := zMatch_lt (S := Q) (k := kd) (p := p); rw [hT] at this; exact this
    have h60 := ht.1
    rw [zRead_s hkd hT]
    have hsc : ∀ (X : zS) (c : Nat), zCmd X → zCmd (zScr X rr c mm ff ss) := fun X c h => h.same2 (zScr_at (Or.inr (by decide))) (fun a b hab => zScr_at (Or.inl hab))
    have ho : ∀ (X : zS) (c a b : Nat), a ≠ 5 → zScr X rr c mm ff ss a b = X a b := fun X c a b h => zScr_at (Or.inl h)
    have hs5 : ∀ (X : zS) (c : Nat), zScr X rr c mm ff ss 5 1 = X 5 1 := fun X c => zScr_at (Or.inr (by decide))
    have hk5 : ∀ (c : Nat), zScr (zKc Q kd ff ss) rr c mm ff ss 5 1 = Q 5 1 := fun c => by rw [zScr_at (Or.inr (by decide)), zKc_o (by decide) (by decide) (by decide) (Or.inr (by decide))]
    split
    · exact ⟨hsc _ _ hc, Or.inl (Nat.le_trans hml h60), fun a b h5 _ _ _ => ho _ _ _ _ h5, hs5 Q ok.toNat⟩
    · have hkc := hsc _ 1 (zKc_cmd hc hk10 hlt.1 hlt.2 (by omega))
      have hoo : ∀ a b, a ≠ 5 → a ≠ 7 → a ≠ 8 → a ≠ 9 → zScr (zKc Q kd ff ss) rr 1 mm ff ss a b = Q a b := fun a b h5 h7 h8 h9 => by rw [ho _ _ _ _ h5, zKc_o h7 h8 h9 (Or.inl h5)]
      split
      · exact ⟨hkc, Or.inr rfl, hoo, hk5 1⟩
      · split
        · have h3 := ih (rr + 1) (zScr (zKc Q kd ff ss) rr 1 mm ff ss) ⟨by rw [hk5]; exact h60, fun k hk => by rw [hoo 6 k (by decide) (by decide) (by decide) (by decide)]; exact ht.2 k hk⟩ (by rw [hk5]; omega) hkc (by rw [zScr_at (Or.inr (by decide)), zKc_n]; omega)
          exact ⟨h3.1, h3.2.1, fun a b h5 h7 h8 h9 => (h3.2.2.1 a b h5 h7 h8 h9).trans (hoo a b h5 h7 h8 h9), h3.2.2.2.trans (hk5 1)⟩
        · exact ⟨hkc, Or.inl (Nat.le_trans hml h60), hoo, hk5 1⟩
/-- a reading to the end has kept a command -/
theorem zRead_nz : ∀ (k p : Nat) (Q : zS), zTxt Q → p ≤ Q 5 1 → (zRead k p Q).1 = 4294967295 → (zRead k p Q).2 5 5 ≠ 0 := by
  intro k
  induction k with
  | zero => intro p Q ht hp h; have h1 := ht.1; have h2 : p = 4294967295 := h; omega
  | succ k ih =>
    intro p Q ht hp
    obtain ⟨kd, hkd⟩ : ∃ k, (zFur Q p).1 = k := ⟨_, rfl⟩
    obtain ⟨⟨ok, rr, mm, ff, ss⟩, hT⟩ : ∃ T, zMatch Q kd p = T := ⟨_, rfl⟩
    have hml : rr ≤ Q 5 1 := by have := zMatch_len (S := Q) (k := kd) hp; rw [hT] at this; exact this
    have h60 := ht.1
    have hk5 : zScr (zKc Q kd ff ss) rr 1 mm ff ss 5 1 = Q 5 1 := by rw [zScr_at (Or.inr (by decide)), zKc_o (by decide) (by decide) (by decide) (Or.inr (by decide))]
    have hkn : zScr (zKc Q kd ff ss) rr 1 mm ff ss 5 5 ≠ 0 := by rw [zScr_at (Or.inr (by decide)), zKc_n]; omega
    have hk6 : ∀ x, zScr (zKc Q kd ff ss) rr 1 mm ff ss 6 x = Q 6 x := fun x => by rw [zScr_at (Or.inl (by decide)), zKc_o (by decide) (by decide) (by decide) (Or.inl (by decide))]
    rw [zRead_s hkd hT]
    split
    · intro h; have h2 : rr = 4294967295 := h; omega
    · split
      · intro _; exact hkn
      · split
        · exact ih (rr + 1) _ ⟨by rw [hk5]; exact h60, fun k hk => by rw [hk6]; exact ht.2 k hk⟩ (by rw [hk5]; omega)
        · intro _; exact hkn
theorem zRunL_le : ∀ (f i n t : Nat) (Q : zS), (zRunL f i n t Q).1 ≤ i + f ∨ (zRunL f i n t Q).1 = 4294967295 := by
  intro f
  induction f with
  | zero => intro i n t Q; exact Or.inr rfl
  | succ f ih =>
    intro i n t Q
    rw [zRunL]
    split
    · rcases ih (i + 1) (zNx (Q 7 i) n) (zTx (Q 7 i) t) (zPerf Q n t (Q 7 i) (Q 8 i) (Q 9 i)).2 with h | h
      · exact Or.inl (by omega)
      · exact Or.inr h
    · exact Or.inl (by dsimp only; omega)
/-- the reading of the whole text, which is then gone -/
def zPrs (S : zS) : Nat × zS := ((zRead 60 0 (zU S 5 5 0)).1, zU (zFx S (zRead 60 0 (zU S 5 5 0)).2) 5 1 0)
theorem zPrs_inv {S : zS} (htx : zTxt S) : ((zPrs S).1 = 4294967295 → zCmd (zPrs S).2) ∧ ((zPrs S).1 ≤ 60 ∨ (zPrs S).1 = 4294967295) ∧ (∀ a b, a ≠ 5 → a ≠ 7 → a ≠ 8 → a ≠ 9 → (zPrs S).2 a b = S a b) := by
  have htx0 : zTxt (zU S 5 5 0) := ⟨by rw [zU_j (by decide)]; exact htx.1, fun k hk => by rw [zU_o (by decide)]; exact htx.2 k hk⟩
  have h := zRead_inv 60 0 (zU S 5 5 0) htx0 (Nat.zero_le _) ⟨by rw [zU_s]; decide, fun i hi => by rw [zU_s] at hi; omega⟩ (by rw [zU_s]; decide)
  have hz := zRead_nz 60 0 (zU S 5 5 0) htx0 (Nat.zero_le _)
  obtain ⟨⟨pe, Q⟩, hR⟩ : ∃ R, zRead 60 0 (zU S 5 5 0) = R := ⟨_, rfl⟩
  have hP : zPrs S = (pe, zU (zFx S Q) 5 1 0) := by unfold zPrs; rw [hR]
  rw [hR] at h hz
  rw [hP]
  refine ⟨fun hpe => ?_, h.2.1, fun a b h5 h7 h8 h9 => ?_⟩
  · have hz2 : zFx S Q = Q := zFx_n (hz hpe)
    rw [hz2]
    exact h.1.same2 (show zU Q 5 1 0 5 5 = Q 5 5 from zU_j (by decide)) (fun a b hab => show zU Q 5 1 0 a b = Q a b from zU_o hab)
  · show zU (zFx S Q) 5 1 0 a b = S a b
    rw [zU_o h5, zFx_o (Or.inl h5)]
    exact (h.2.2.1 a b h5 h7 h8 h9).trans (zU_o h5)
theorem zPrs_now {S : zS} {n t : Nat} (htx : zTxt S) (h : zNow S n t) : zNow (zPrs S).2 n t := by
  have ho := (zPrs_inv htx).2.2
  exact h.same (ho _ _ (by decide) (by decide) (by decide) (by decide)) (ho _ _ (by decide) (by decide) (by decide) (by decide)) (fun e _ => ho _ _ (by decide) (by decide) (by decide) (by decide)) (fun e _ => ho _ _ (by decide) (by decide) (by decide) (by decide)) (fun e _ => ho _ _ (by decide) (by decide) (by decide) (by decide)) (fun r hr => (h.2.2.2.2.2.2.2 r hr).same (fun k => ho _ _ (by omega) (by omega) (by omega) (by omega)))
theorem zPrs_hist {S : zS} (htx : zTxt S) (h : zHist S) : zHist (zPrs S).2 := by
  have ho := (zPrs_inv htx).2.2
  unfold zHist at *
  rw [ho _ _ (by decide) (by decide) (by decide) (by decide), ho _ _ (by decide) (by decide) (by decide) (by decide)]
  exact h

theorem zPrs_of {S Q : zS} {pe : Nat} (hP : zPrs S = (pe, Q)) : ∃ Q0, zRead 60 0 (zU S 5 5 0) = (pe, Q0) ∧ zU (zFx S Q0) 5 1 0 = Q := by
  obtain ⟨⟨p, Q0⟩, hR⟩ : ∃ R, zRead 60 0 (zU S 5 5 0) = R := ⟨_, rfl⟩
  unfold zPrs at hP
  rw [hR] at hP ⊢
  injection hP with h1 h2
  subst h1
  exact ⟨Q0, rfl, h2⟩
theorem c_X4_readAll' {l : Launch} (hl : l.stackTraces = false) {G : zG} {S : zS} {J : Int64} {E : UInt64} (htx : zTxt S) {pe : Nat} {Q : zS} (hR : zRead 60 0 (zU S 5 5 0) = (pe, Q)) : nCR l G mX4_readAll 6 0 0 [.ref 5] S J E (some (zi pe)) (zFx S Q) J E := by
  have h := c_X4_readAll hl (G := G) (J := J) (E := E) htx
  rw [hR] at h
  exact h
theorem c_X5_runCommands' {l : Launch} (hl : l.stackTraces = false) {G : zG} {S : zS} {J : Int64} {E : UInt64} {n t re : Nat} {Q : zS} (hw0 : zNow S n t) (hhi0 : zHist S) (hcm0 : zCmd S) (hC : zRunC S n t = (re, Q)) : nCR l G mX5_runCommands 6 0 0 [.ref 0] S J E (some (zi re)) Q J E := by
  have h := c_X5_runCommands hl (G := G) (J := J) (E := E) hw0 hhi0 hcm0
  rw [hC] at h
  exact h

set_option maxRecDepth 100000 in
set_option maxHeartbeats 4000000 in
theorem c_X5_runScript {l : Launch} (hl : l.stackTraces = false) {G : zG} {S : zS} {J : Int64} {E : UInt64} {n t : Nat} (hw : zNow S n t) (hh : zHist S) (htx : zTxt S) {pe re : Nat} {Q Q2 : zS} (hP : zPrs S = (pe, Q)) (h1 : pe = 4294967295) (hC : zRunC Q n t = (re, Q2)) (h2 : re = 4294967295) : nCR l G mX5_runScript 7 0 0 [.ref 0] S J E (some (zi (Q2 5 5))) Q2 J E := by
  refine nCR.of hl (by decide) rfl (Nat.le_of_ble_eq_true rfl) (ls := [some (.ref 0), none, none]) rfl (fun X C hF hX => ?_)
  subst hX
  have hp := zPrs_inv htx
  have hw2 := zPrs_now htx hw
  have hh2 := zPrs_hist htx hh
  rw [hP] at hp hw2 hh2
  have hp2 : pe < 4294967296 := by have := hp.2.1; dsimp only at this; omega
  have hr2 : re < 4294967296 := by
    have h9 := zRunL_le (Q 5 5) 0 n t (zScCp Q 41 25)
    have h2 := (hp.1 h1).1
    have h3 : (zRunC Q n t).1 ≤ 0 + Q 5 5 ∨ (zRunC Q n t).1 = 4294967295 := h9
    rw [hC] at h3
    dsimp only at h2 h3
    omega
  obtain ⟨Q0, hR, hQ0⟩ := zPrs_of hP
  refine sw_aload_0 C dX5_runScript_0 ?_
  refine sw_getR C (o' := 5) fX5_39 rfl (by decide) rfl rfl (by decide) dX5_runScript_1 ?_
  refine sn_cV0r C vX4_readAll lX5_266 rfl (by decide) rfl rfl dX5_runScript_4 (Nat.le_of_ble_eq_true rfl) (c_X4_readAll' hl htx hR) (by decide) (by decide) (by decide) ?_
  refine sw_istore_1 C rfl dX5_runScript_7 ?_
  refine sw_aload_0 C dX5_runScript_8 ?_
  refine sw_getR C (o' := 5) fX5_39 rfl (by decide) rfl rfl (by decide) dX5_runScript_9 ?_
  refine sn_iconst C 0 (by decide) dX5_runScript_12 ?_
  refine sn_putI C fX5_258 rfl (by decide) rfl rfl dX5_runScript_13 ?_
  rw [hQ0]
  refine sw_iload_1 C dX5_runScript_16 ?_
  refine sn_iconst C 4294967295 (by decide) dX5_runScript_17 ?_
  refine sn_icmp_eq C 37 (by omega) (by decide) dX5_runScript_18 (by decide) (fun c18 => ?_) (fun c18 => ?_)
  · refine sw_aload_0 C dX5_runScript_37 ?_
    refine sn_cV0r C vX5_runCommands lX5_271 rfl (by decide) rfl rfl dX5_runScript_38 (Nat.le_of_ble_eq_true rfl) (c_X5_runCommands' hl hw2 hh2 (hp.1 h1) hC) (by decide) (by decide) (by decide) ?_
    refine sw_istore_2 C rfl dX5_runScript_41 ?_
    refine sw_iload_2 C dX5_runScript_42 ?_
    refine sn_iconst C 4294967295 (by decide) dX5_runScript_43 ?_
    refine sn_icmp_eq C 63 (by omega) (by decide) dX5_runScript_44 (by decide) (fun c44 => ?_) (fun c44 => ?_)
    · refine sw_aload_0 C dX5_runScript_63 ?_
      refine sw_getR C (o' := 5) fX5_39 rfl (by decide) rfl rfl (by decide) dX5_runScript_64 ?_
      refine sn_getI C fX5_276 rfl (by decide) rfl dX5_runScript_67 ?_
      exact sn_iret C rfl hF dX5_runScript_70 (by decide) (by decide) (by first | rfl | (simp [*]; done)) rfl rfl rfl
    · omega
  · omega

set_option maxRecDepth 100000 in
set_option maxHeartbeats 4000000 in
theorem t2_X5_runScript {l : Launch} (hl : l.stackTraces = false) {G : zG} {S : zS} {J : Int64} {E : UInt64} {n t : Nat} (hw : zNow S n t) (hh : zHist S) (htx : zTxt S) {pe : Nat} {Q : zS} (hP : zPrs S = (pe, Q)) (h1 : ¬ pe = 4294967295) : nCT l G mX5_runScript 7 1 6 [.ref 0] S J E "java/lang/IllegalArgumentException" (zU Q 0 8 pe) J E := by
  refine nCT.of hl (by decide) rfl (Nat.le_of_ble_eq_true rfl) (ls := [some (.ref 0), none, none]) rfl (fun X C hF hX => ?_)
  subst hX
  have hp := zPrs_inv htx
  have hw2 := zPrs_now htx hw
  have hh2 := zPrs_hist htx hh
  rw [hP] at hp hw2 hh2
  have hp2 : pe < 4294967296 := by have := hp.2.1; dsimp only at this; omega
  obtain ⟨Q0, hR, hQ0⟩ := zPrs_of hP
  refine sw_aload_0 C dX5_runScript_0 ?_
  refine sw_getR C (o' := 5) fX5_39 rfl (by decide) rfl rfl (by decide) dX5_runScript_1 ?_
  refine sn_cV0r C vX4_readAll lX5_266 rfl (by decide) rfl rfl dX5_runScript_4 (Nat.le_of_ble_eq_true rfl) (c_X4_readAll' hl htx hR) (by decide) (by decide) (by decide) ?_
  refine sw_istore_1 C rfl dX5_runScript_7 ?_
  refine sw_aload_0 C dX5_runScript_8 ?_
  refine sw_getR C (o' := 5) fX5_39 rfl (by decide) rfl rfl (by decide) dX5_runScript_9 ?_
  refine sn_iconst C 0 (by decide) dX5_runScript_12 ?_
  refine sn_putI C fX5_258 rfl (by decide) rfl rfl dX5_runScript_13 ?_
  rw [hQ0]
  refine sw_iload_1 C dX5_runScript_16 ?_
  refine sn_iconst C 4294967295 (by decide) dX5_runScript_17 ?_
  refine sn_icmp_eq C 37 (by omega) (by decide) dX5_runScript_18 (by decide) (fun c18 => ?_) (fun c18 => ?_)
  · omega
  · refine sw_aload_0 C dX5_runScript_21 ?_
    refine sw_iload_1 C dX5_runScript_22 ?_
    refine sn_putI C fX5_54 rfl (by decide) rfl rfl dX5_runScript_23 ?_
    exact sw_throwW C (text := "the script does not have the required form") zThA qX5_183 (by decide +kernel) hF dX5_runScript_26 dX5_runScript_29 dX5_runScript_30 dX5_runScript_33 dX5_runScript_36 (by decide) (Nat.le_of_ble_eq_true rfl) (by decide) (by decide)

set_option maxRecDepth 100000 in
set_option maxHeartbeats 4000000 in
theorem t3_X5_runScript {l : Launch} (hl : l.stackTraces = false) {G : zG} {S : zS} {J : Int64} {E : UInt64} {n t : Nat} (hw : zNow S n t) (hh : zHist S) (htx : zTxt S) {pe re : Nat} {Q Q2 : zS} (hP : zPrs S = (pe, Q)) (h1 : pe = 4294967295) (hC : zRunC Q n t = (re, Q2)) (h2 : ¬ re = 4294967295) : nCT l G mX5_runScript 7 1 6 [.ref 0] S J E "java/lang/IllegalStateException" (zU Q2 0 9 re) J E := by
  refine nCT.of hl (by decide) rfl (Nat.le_of_ble_eq_true rfl) (ls := [some (.ref 0), none, none]) rfl (fun X C hF hX => ?_)
  subst hX
  have hp := zPrs_inv htx
  have hw2 := zPrs_now htx hw
  have hh2 := zPrs_hist htx hh
  rw [hP] at hp hw2 hh2
  have hp2 : pe < 4294967296 := by have := hp.2.1; dsimp only at this; omega
  have hr2 : re < 4294967296 := by
    have h9 := zRunL_le (Q 5 5) 0 n t (zScCp Q 41 25)
    have h2 := (hp.1 h1).1
    have h3 : (zRunC Q n t).1 ≤ 0 + Q 5 5 ∨ (zRunC Q n t).1 = 4294967295 := h9
    rw [hC] at h3
    dsimp only at h2 h3
    omega
  obtain ⟨Q0, hR, hQ0⟩ := zPrs_of hP
  refine sw_aload_0 C dX5_runScript_0 ?_
  refine sw_getR C (o' := 5) fX5_39 rfl (by decide) rfl rfl (by decide) dX5_runScript_1 ?_
  refine sn_cV0r C vX4_readAll lX5_266 rfl (by decide) rfl rfl dX5_runScript_4 (Nat.le_of_ble_eq_true rfl) (c_X4_readAll' hl htx hR) (by decide) (by decide) (by decide) ?_
  refine sw_istore_1 C rfl dX5_runScript_7 ?_
  refine sw_aload_0 C dX5_runScript_8 ?_
  refine sw_getR C (o' := 5) fX5_39 rfl (by decide) rfl rfl (by decide) dX5_runScript_9 ?_
  refine sn_iconst C 0 (by decide) dX5_runScript_12 ?_
  refine sn_putI C fX5_258 rfl (by decide) rfl rfl dX5_runScript_13 ?_
  rw [hQ0]
  refine sw_iload_1 C dX5_runScript_16 ?_
  refine sn_iconst C 4294967295 (by decide) dX5_runScript_17 ?_
  refine sn_icmp_eq C 37 (by omega) (by decide) dX5_runScript_18 (by decide) (fun c18 => ?_) (fun c18 => ?_)
  · refine sw_aload_0 C dX5_runScript_37 ?_
    refine sn_cV0r C vX5_runCommands lX5_271 rfl (by decide) rfl rfl dX5_runScript_38 (Nat.le_of_ble_eq_true rfl) (c_X5_runCommands' hl hw2 hh2 (hp.1 h1) hC) (by decide) (by decide) (by decide) ?_
    refine sw_istore_2 C rfl dX5_runScript_41 ?_
    refine sw_iload_2 C dX5_runScript_42 ?_
    refine sn_iconst C 4294967295 (by decide) dX5_runScript_43 ?_
    refine sn_icmp_eq C 63 (by omega) (by decide) dX5_runScript_44 (by decide) (fun c44 => ?_) (fun c44 => ?_)
    · omega
    · refine sw_aload_0 C dX5_runScript_47 ?_
      refine sw_iload_2 C dX5_runScript_48 ?_
      refine sn_putI C fX5_58 rfl (by decide) rfl rfl dX5_runScript_49 ?_
      exact sw_throwW C (text := "a command of the script failed") zThS qX5_174 (by decide +kernel) hF dX5_runScript_52 dX5_runScript_55 dX5_runScript_56 dX5_runScript_59 dX5_runScript_62 (by decide) (Nat.le_of_ble_eq_true rfl) (by decide) (by decide)
  · omega
