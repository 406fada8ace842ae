/-- listeners and rumours after a change -/
def zNx (k n : Nat) : Nat := if k = 0 then n + 1 else n
def zTx (k t : Nat) : Nat := if k = 3 then t + 1 else t
/-- a change reaches no further than the scene 'now' -/
theorem zConvert_o {S : zS} {r e a b : Nat} (h : a < 25 ∨ 41 ≤ a) (hr : r < 4) : (zConvert S r e).2 a b = S a b := by
  unfold zConvert
  split
  · rfl
  · dsimp only
    rw [zU_o (by omega), zU_o (by omega), zU_o (by omega)]
theorem zPass1_o {n r a b : Nat} {q : Nat × zS} (h : a < 25 ∨ 41 ≤ a) (hr : r < 4) : (zPass1 n r q).2 a b = q.2 a b := by
  unfold zPass1
  dsimp only
  rw [zU_o (by omega), zSpread_off (by omega) (by omega)]
theorem zRound_o {n t a b : Nat} {q : Nat × zS} (h : a < 25 ∨ 41 ≤ a) (ht : t ≤ 4) : (zRound n t q).2 a b = q.2 a b := by
  unfold zRound
  dsimp only
  rw [zU_o (by omega)]
  exact zIt_inv (fun p : Nat × zS => p.2 a b = q.2 a b) rfl (fun i p hi hp => (zPass1_o h (by omega)).trans hp)
theorem zPassR_o {n t k a b : Nat} {S : zS} (h : a < 25 ∨ 41 ≤ a) (ht : t ≤ 4) : (zPassR n t k S).2 a b = S a b :=
  zIt_inv (fun p : Nat × zS => p.2 a b = S a b) rfl (fun _ _ _ hp => (zRound_o h ht).trans hp)
theorem zPerf_o {S : zS} {n t k x y a b : Nat} (h : a < 25 ∨ 41 ≤ a) (ht : t ≤ 4) (h0 : zRef S n t k x y = 0) : (zPerf S n t k x y).2 a b = S a b := by
  rcases (show k = 0 ∨ k = 1 ∨ k = 2 ∨ k = 3 ∨ k = 4 ∨ k = 5 ∨ k = 6 ∨ k = 7 ∨ 8 ≤ k by omega) with rfl | rfl | rfl | rfl | rfl | rfl | rfl | rfl | h8 <;> (try simp only [zRef] at h0) <;> (try simp only [zPerf])
  · unfold zAddL; rw [zU_o (by omega), zU_o (by omega), zU_o (by omega)]
  · unfold zJoin; rw [zU_o (by omega), zU_o (by omega), zU_o (by omega)]
  · unfold zCut; rw [zU_o (by omega), zU_o (by omega), zU_o (by omega)]
  · have h4 : t < 4 := by
      unfold zrStart at h0
      (repeat' split at h0) <;> first | assumption | omega
    unfold zBegin zCome; rw [zU_o (by omega), zU_o (by omega), zU_o (by omega), zU_o (by omega), zU_o (by omega), zU_o (by omega), zU_o (by omega)]
  · have h4 : x < t := by
      unfold zrConv at h0
      (repeat' split at h0) <;> omega
    exact zConvert_o h (by omega)
  · have h4 : x < t := by
      unfold zrSil at h0
      (repeat' split at h0) <;> omega
    rw [zU_o (by omega)]
  · have h4 : x < t := by
      unfold zrRev at h0
      (repeat' split at h0) <;> omega
    rw [zU_o (by omega), zU_o (by omega)]
  · unfold zMoveL; rw [zU_o (by omega)]
  · obtain ⟨j, rfl⟩ := Nat.exists_eq_add_of_le h8
    rw [Nat.add_comm]
    exact zPassR_o h ht
theorem zbit_lt {x : Nat} (h : x < 12) : 1 * 2 ^ x < 4096 := by
  rw [Nat.one_mul]
  exact Nat.pow_lt_pow_right (by decide) (show x < 12 from h)
theorem zPut {P : Nat → Prop} {S : zS} {o j x a : Nat} (hx : P x) (h : ∀ e, e < 12 → P (S a e)) : ∀ e, e < 12 → P (zU S o j x a e) := fun e he => by
  unfold zU
  split
  · exact hx
  · exact h e he
theorem zRbU {S : zS} {o a j x : Nat} (h : zRb S o) (hv : j = 1 → x ≤ 9) (hv2 : j = 2 → x ≤ 1) (hv3 : j = 3 → x < 4096) (hv4 : j = 4 → x < 4096) : zRb (zU S a j x) o := by
  obtain ⟨h1, h2, h3, h4⟩ := h
  unfold zRb zU
  refine ⟨?_, ?_, ?_, ?_⟩ <;> split <;> rename_i hc <;> first | assumption | (first | exact hv hc.2.symm | exact hv2 hc.2.symm | exact hv3 hc.2.symm | exact hv4 hc.2.symm)
/-- what a change keeps -/
theorem zPerf_now {S : zS} {n t k x y : Nat} (hw : zNow S n t) (hk : k < 10) (h0 : zRef S n t k x y = 0) : zNow (zPerf S n t k x y).2 (zNx k n) (zTx k t) := by
  obtain ⟨hn, hz, ht, ht4, hnb, hhv, hdb, hru⟩ := id hw
  unfold zNx zTx
  rcases (show k = 0 ∨ k = 1 ∨ k = 2 ∨ k = 3 ∨ k = 4 ∨ k = 5 ∨ k = 6 ∨ k = 7 ∨ 8 ≤ k by omega) with rfl | rfl | rfl | rfl | rfl | rfl | rfl | rfl | h8 <;> (try simp only [zRef] at h0) <;> (try simp only [zPerf])
  · have h1 : x < 4 ∧ y ≤ 9 ∧ n < 12 := by
      unfold zrAdd at h0
      (repeat' split at h0) <;> omega
    unfold zAddL
    refine ⟨by rw [zU_s]; rfl, by simp; omega, ?_, by simpa using ht4, ?_, ?_, ?_, fun r hr => ?_⟩
    · rw [zU_o (by decide), zU_o (by decide), zU_o (by decide)]; exact ht
    · intro e he; rw [zU_o (by decide), zU_o (by decide), zU_o (by decide)]; exact hnb e he
    · intro e he; rw [zU_o (by decide), zU_o (by decide)]; exact zPut (P := (· < 4)) h1.1 hhv e he
    · intro e he; rw [zU_o (by decide)]; refine zPut (P := (· ≤ 9)) h1.2.1 ?_ e he; intro e he; rw [zU_o (by decide)]; exact hdb e he
    · exact (hru r hr).same (fun k => by rw [zU_o (by omega), zU_o (by omega), zU_o (by omega)])
  · have h1 : x < n ∧ y < n := by
      unfold zrJoin at h0
      (repeat' split at h0) <;> omega
    unfold zJoin
    have hb1 := zbit_lt (show x < 12 by omega)
    have hb2 := zbit_lt (show y < 12 by omega)
    have hm1 : ∀ e, e < 12 → zU S 27 x (S 27 x ||| 1 * 2 ^ y) 27 e < 4096 := zPut (P := (· < 4096)) (zOr_lt (hnb x (by omega)) hb2) hnb
    refine ⟨?_, by simpa using hz, ?_, by simpa using ht4, ?_, ?_, ?_, fun r hr => ?_⟩
    · rw [zU_j (by decide), zU_o (by decide), zU_o (by decide)]; exact hn
    · rw [zU_o (by decide), zU_o (by decide), zU_o (by decide)]; exact ht
    · intro e he; rw [zU_o (by decide)]; exact zPut (P := (· < 4096)) (zOr_lt (hm1 y (by omega)) hb1) hm1 e he
    · intro e he; rw [zU_o (by decide), zU_o (by decide), zU_o (by decide)]; exact hhv e he
    · intro e he; rw [zU_o (by decide), zU_o (by decide), zU_o (by decide)]; exact hdb e he
    · exact (hru r hr).same (fun k => by rw [zU_o (by omega), zU_o (by omega), zU_o (by omega)])
  · have h1 : x < n ∧ y < n := by
      unfold zrCut at h0
      (repeat' split at h0) <;> omega
    unfold zCut
    have hm1 : ∀ e, e < 12 → zU S 27 x (S 27 x &&& (1 * 2 ^ y ^^^ 4294967295)) 27 e < 4096 := zPut (P := (· < 4096)) (zAnd_lt (hnb x (by omega))) hnb
    refine ⟨?_, by simpa using hz, ?_, by simpa using ht4, ?_, ?_, ?_, fun r hr => ?_⟩
    · rw [zU_j (by decide), zU_o (by decide), zU_o (by decide)]; exact hn
    · rw [zU_o (by decide), zU_o (by decide), zU_o (by decide)]; exact ht
    · intro e he; rw [zU_o (by decide)]; exact zPut (P := (· < 4096)) (zAnd_lt (hm1 y (by omega))) hm1 e he
    · intro e he; rw [zU_o (by decide), zU_o (by decide), zU_o (by decide)]; exact hhv e he
    · intro e he; rw [zU_o (by decide), zU_o (by decide), zU_o (by decide)]; exact hdb e he
    · exact (hru r hr).same (fun k => by rw [zU_o (by omega), zU_o (by omega), zU_o (by omega)])
  · have h1 : x < n ∧ y ≤ 9 ∧ t < 4 := by
      unfold zrStart at h0
      (repeat' split at h0) <;> omega
    unfold zBegin zCome
    refine ⟨?_, by simpa using hz, ?_, by simp; omega, ?_, ?_, ?_, fun r hr => ?_⟩
    · rw [zU_o (by omega), zU_o (by omega), zU_o (by omega), zU_o (by omega), zU_o (by omega), zU_o (by omega), zU_o (by omega)]; exact hn
    · rw [zU_s]; rfl
    · intro e he; rw [zU_o (by omega), zU_o (by omega), zU_o (by omega), zU_o (by omega), zU_o (by omega), zU_o (by omega), zU_o (by omega)]; exact hnb e he
    · intro e he; rw [zU_o (by omega), zU_o (by omega), zU_o (by omega), zU_o (by omega), zU_o (by omega), zU_o (by omega), zU_o (by omega)]; exact hhv e he
    · intro e he; rw [zU_o (by omega), zU_o (by omega), zU_o (by omega), zU_o (by omega), zU_o (by omega), zU_o (by omega), zU_o (by omega)]; exact hdb e he
    · have hb1 := zbit_lt (show x < 12 by omega)
      refine zRb.same (S := zU (zU (zU (zU (zU S (33 + 2 * t) 0 x) (33 + 2 * t) 1 y) (33 + 2 * t) 2 1) (33 + 2 * t) 3 (1 * 2 ^ x)) (33 + 2 * t) 4 0) ?_ (fun k => by rw [zU_o (by omega), zU_o (by omega)])
      exact zRbU (zRbU (zRbU (zRbU (zRbU (hru r hr) (by omega) (by omega) (by omega) (by omega)) (by omega) (by omega) (by omega) (by omega)) (by omega) (by omega) (by omega) (by omega)) (by omega) (by omega) (fun _ => hb1) (by omega)) (by omega) (by omega) (by omega) (by omega)
  · have h1 : x < t ∧ y < n := by
      unfold zrConv at h0
      (repeat' split at h0) <;> omega
    unfold zConvert
    split
    · exact hw
    · dsimp only
      refine zNow.u25 ?_ (by decide)
      refine hw.same ?_ ?_ ?_ ?_ ?_ (fun r hr => ?_)
      · rw [zU_o (by omega), zU_o (by omega)]
      · rw [zU_o (by omega), zU_o (by omega)]
      · intro e he; rw [zU_o (by omega), zU_o (by omega)]
      · intro e he; rw [zU_o (by omega), zU_o (by omega)]
      · intro e he; rw [zU_o (by omega), zU_o (by omega)]
      · have hx4 := hru x (by omega)
        have hb1 := zbit_lt (show y < 12 by omega)
        exact zRbU (zRbU (hru r hr) (by omega) (by omega) (fun _ => zAnd_lt hx4.2.2.1) (by omega)) (by omega) (by omega) (by omega) (fun _ => zOr_lt hx4.2.2.2 hb1)
  · have h1 : x < t := by
      unfold zrSil at h0
      (repeat' split at h0) <;> omega
    refine hw.same ?_ ?_ ?_ ?_ ?_ (fun r hr => ?_)
    · rw [zU_o (by omega)]
    · rw [zU_o (by omega)]
    · intro e he; rw [zU_o (by omega)]
    · intro e he; rw [zU_o (by omega)]
    · intro e he; rw [zU_o (by omega)]
    · exact zRbU (hru r hr) (by omega) (by omega) (by omega) (by omega)
  · have h1 : x < t ∧ y ≤ 9 := by
      unfold zrRev at h0
      (repeat' split at h0) <;> omega
    refine hw.same ?_ ?_ ?_ ?_ ?_ (fun r hr => ?_)
    · rw [zU_o (by omega), zU_o (by omega)]
    · rw [zU_o (by omega), zU_o (by omega)]
    · intro e he; rw [zU_o (by omega), zU_o (by omega)]
    · intro e he; rw [zU_o (by omega), zU_o (by omega)]
    · intro e he; rw [zU_o (by omega), zU_o (by omega)]
    · exact zRbU (zRbU (hru r hr) (by omega) (by omega) (by omega) (by omega)) (by omega) (by omega) (by omega) (by omega)
  · have h1 : x < n ∧ y < 4 := by
      unfold zrMove at h0
      (repeat' split at h0) <;> omega
    unfold zMoveL
    refine ⟨?_, by simpa using hz, ?_, by simpa using ht4, ?_, ?_, ?_, fun r hr => ?_⟩
    · rw [zU_o (by decide)]; exact hn
    · rw [zU_o (by decide)]; exact ht
    · intro e he; rw [zU_o (by decide)]; exact hnb e he
    · intro e he; exact zPut (P := (· < 4)) h1.2 hhv e he
    · intro e he; rw [zU_o (by decide)]; exact hdb e he
    · exact (hru r hr).same (fun k => by rw [zU_o (by omega)])
  · obtain ⟨j, rfl⟩ := Nat.exists_eq_add_of_le h8
    rw [if_neg (by omega), if_neg (by omega), Nat.add_comm]
    exact zPassR_now hw
/-- the run of the read commands: the failed one or none, and the memory -/
def zRunL : Nat → Nat → Nat → Nat → zS → Nat × zS
  | 0, _, _, _, Q => (4294967295, zKeep Q 41)
  | f + 1, i, n, t, Q =>
    if zRef Q n t (Q 7 i) (Q 8 i) (Q 9 i) = 0 then zRunL f (i + 1) (zNx (Q 7 i) n) (zTx (Q 7 i) t) (zPerf Q n t (Q 7 i) (Q 8 i) (Q 9 i)).2
    else (i, zScCp Q 25 41)
def zRunC (S : zS) (n t : Nat) : Nat × zS := zRunL (S 5 5) 0 n t (zScCp S 41 25)
def zCmd (S : zS) : Prop := S 5 5 ≤ 60 ∧ ∀ i, i < S 5 5 → S 7 i < 10 ∧ S 8 i < 2 ^ 32 ∧ S 9 i < 2 ^ 32
theorem zCmd.same {S Q : zS} (h : zCmd S) (hs : ∀ a b, a = 5 ∨ a = 7 ∨ a = 8 ∨ a = 9 → Q a b = S a b) : zCmd Q := by
  obtain ⟨h1, h2⟩ := h
  refine ⟨by rw [hs 5 5 (by decide)]; exact h1, fun i hi => ?_⟩
  rw [hs 5 5 (by decide)] at hi
  rw [hs 7 i (by decide), hs 8 i (by decide), hs 9 i (by decide)]
  exact h2 i hi
theorem zNow.cp {S : zS} {n t b p : Nat} (h : zNow S n t) (hb : 41 ≤ b) : zNow (zScCp S b p) n t :=
  h.same (zScCp_o (by omega)) (zScCp_o (by omega)) (fun e _ => zScCp_o (by omega)) (fun e _ => zScCp_o (by omega)) (fun e _ => zScCp_o (by omega)) (fun r hr => (h.2.2.2.2.2.2.2 r hr).same (fun k => zScCp_o (by omega)))
theorem zAlv.cp {S : zS} {n t b : Nat} (h : zNow S n t) (hb : 41 ≤ b) : zAlv (zScCp S b 25) b := fun r hr => by
  have h2 := ((zScCp_is (S := S) (b := b) (p := 25) (by unfold zAp; omega)).2.2.1 r hr).1 2 (by decide)
  rw [h2]
  have h3 := (h.2.2.2.2.2.2.2 r hr).2.1
  rwa [show 33 + 2 * r = 25 + 8 + 2 * r by omega] at h3
theorem zAlv.perf {S : zS} {n t k x y b : Nat} (h : zAlv S b) (hb : 41 ≤ b) (ht : t ≤ 4) (h0 : zRef S n t k x y = 0) : zAlv (zPerf S n t k x y).2 b := fun r hr => by
  rw [zPerf_o (by omega) ht h0]; exact h r hr

set_option maxRecDepth 100000 in
set_option maxHeartbeats 4000000 in
theorem c_X5_runCommands {l : Launch} (hl : l.stackTraces = false) {G : zG} {S : zS} {J : Int64} {E : UInt64} {n0 t0 : Nat} (hw0 : zNow S n0 t0) (hhi0 : zHist S) (hcm0 : zCmd S) : nCR l G mX5_runCommands 6 0 0 [.ref 0] S J E (some (zi (zRunC S n0 t0).1)) (zRunC S n0 t0).2 J E := by
  refine nCR.of hl (by decide) rfl (Nat.le_of_ble_eq_true rfl) (ls := [some (.ref 0), none, none, none, none]) rfl (fun X C hF hX => ?_)
  subst hX
  refine sw_aload_0 C dX5_runCommands_0 ?_
  refine sw_getR C (o' := 41) fX5_16 rfl (by decide) rfl rfl (by decide) dX5_runCommands_1 ?_
  refine sw_aload_0 C dX5_runCommands_4 ?_
  refine sw_getR C (o' := 25) fX5_10 rfl (by decide) rfl rfl (by decide) dX5_runCommands_5 ?_
  refine sn_cV1v C vX3_copyFrom lX5_288 rfl (by decide) rfl rfl dX5_runCommands_8 (Nat.le_of_ble_eq_true rfl) (c_X3_copyFrom hl zSc41 zSc25 (by unfold zAp; omega) (fun r hr => by have := (hw0.2.2.2.2.2.2.2 r hr).2.1; rwa [show 33 + 2 * r = 25 + 8 + 2 * r by omega] at this)) (by decide) (by decide) (by decide) ?_
  refine sn_iconst C 0 (by decide) dX5_runCommands_11 ?_
  refine sw_istore_1 C rfl dX5_runCommands_12 ?_
  obtain ⟨cN, hcN0⟩ : ∃ c, S 5 5 = c := ⟨_, rfl⟩
  have hl600 := hcm0.1
  have L13 : ∀ (kM i : Nat) (n : Nat) (t : Nat) (Q : zS) (u : Option Value) (v : Option Value) (w : Option Value), i ≤ cN → (Q 5 5 = cN) → (zNow Q n t) → (zAlv Q 41) → (zCmd Q) → (zHist Q) → (zRunL (cN - i) i n t Q = zRunC S n0 t0) → cN - i < kM → SN G X 0 0 13 [some (.ref 0), some (zi i), u, v, w] [] Q J E := by
    intro kM
    induction kM with
    | zero => intro i n t Q u v w _ _ _ _ _ _ _ hkM; exact absurd hkM (by omega)
    | succ kM ih13 =>
      intro i n t Q u v w hi hcN hw hal hcm hhi hq hkM
      have hl60 := hcm.1
      have hz := hw.2.1
      have ht4 := hw.2.2.2.1
      refine sw_iload_1 C dX5_runCommands_13 ?_
      refine sw_aload_0 C dX5_runCommands_14 ?_
      refine sw_getR C (o' := 5) fX5_39 rfl (by decide) rfl rfl (by decide) dX5_runCommands_15 ?_
      refine sn_getIe C (cN) hcN fX5_276 rfl (by decide) rfl dX5_runCommands_18 ?_
      refine sn_icmp_ge C 94 (by omega) (by omega) dX5_runCommands_21 (by decide) (fun c21 => ?_) (fun c21 => ?_)
      · refine sw_aload_0 C dX5_runCommands_94 ?_
        refine sw_getR C (o' := 1) fX5_25 rfl (by decide) rfl rfl (by decide) dX5_runCommands_95 ?_
        refine sw_aload_0 C dX5_runCommands_98 ?_
        refine sw_getR C (o' := 41) fX5_16 rfl (by decide) rfl rfl (by decide) dX5_runCommands_99 ?_
        refine sn_cV1v C vX0_keep lX5_316 rfl (by decide) rfl rfl dX5_runCommands_102 (Nat.le_of_ble_eq_true rfl) (c_X0_keep hl zSc41 (by decide) hhi.1 hhi.2 hal) (by decide) (by decide) (by decide) ?_
        refine sn_iconst C 4294967295 (by decide) dX5_runCommands_105 ?_
        exact sn_iret C rfl hF dX5_runCommands_106 (by decide) (by decide) (by rw [show cN - i = 0 from by omega] at hq; rw [← hq]; rfl) (by rw [show cN - i = 0 from by omega] at hq; rw [← hq]; rfl) rfl rfl
      · obtain ⟨hc7, hc8, hc9⟩ := hcm.2 i (by omega)
        refine sw_aload_0 C dX5_runCommands_24 ?_
        refine sw_getR C (o' := 5) fX5_39 rfl (by decide) rfl rfl (by decide) dX5_runCommands_25 ?_
        refine sw_getR C (o' := 7) fX5_379 rfl (by decide) rfl rfl (by decide) dX5_runCommands_28 ?_
        refine sw_iload_1 C dX5_runCommands_31 ?_
        refine sn_iald C rfl (by decide) (by omega) (by decide) dX5_runCommands_32 ?_
        refine sw_istore_2 C rfl dX5_runCommands_33 ?_
        refine sw_aload_0 C dX5_runCommands_34 ?_
        refine sw_getR C (o' := 5) fX5_39 rfl (by decide) rfl rfl (by decide) dX5_runCommands_35 ?_
        refine sw_getR C (o' := 8) fX5_382 rfl (by decide) rfl rfl (by decide) dX5_runCommands_38 ?_
        refine sw_iload_1 C dX5_runCommands_41 ?_
        refine sn_iald C rfl (by decide) (by omega) (by decide) dX5_runCommands_42 ?_
        refine sw_istore_3 C rfl dX5_runCommands_43 ?_
        refine sw_aload_0 C dX5_runCommands_44 ?_
        refine sw_getR C (o' := 5) fX5_39 rfl (by decide) rfl rfl (by decide) dX5_runCommands_45 ?_
        refine sw_getR C (o' := 9) fX5_385 rfl (by decide) rfl rfl (by decide) dX5_runCommands_48 ?_
        refine sw_iload_1 C dX5_runCommands_51 ?_
        refine sn_iald C rfl (by decide) (by omega) (by decide) dX5_runCommands_52 ?_
        refine sw_istore_4 C rfl dX5_runCommands_53 ?_
        refine sw_aload_0 C dX5_runCommands_55 ?_
        refine sw_iload_2 C dX5_runCommands_56 ?_
        refine sw_iload_3 C dX5_runCommands_57 ?_
        refine sw_iload_4 C dX5_runCommands_58 ?_
        refine sn_cV3r C vX5_refusalOf lX5_310 rfl (by decide) rfl rfl dX5_runCommands_60 (Nat.le_of_ble_eq_true rfl) (c_X5_refusalOf hl hw hc7 hc8 hc9) (by decide) (by decide) (by decide) ?_
        refine sn_if_eq C 79 (by have := zRef_le (S := Q) (n := n) (t := t) (k := Q 7 i) (x := Q 8 i) (y := Q 9 i); omega) dX5_runCommands_63 (by decide) (fun c63 => ?_) (fun c63 => ?_)
        · refine sw_aload_0 C dX5_runCommands_79 ?_
          refine sw_iload_2 C dX5_runCommands_80 ?_
          refine sw_iload_3 C dX5_runCommands_81 ?_
          refine sw_iload_4 C dX5_runCommands_82 ?_
          refine sn_cV3r C vX5_perform lX5_319 rfl (by decide) rfl rfl dX5_runCommands_84 (Nat.le_of_ble_eq_true rfl) (c_X5_perform hl hw hc7 c63) (by decide) (by decide) (by decide) ?_
          refine sw_pop C rfl dX5_runCommands_87 ?_
          refine sn_iinc_1 C rfl dX5_runCommands_88 ?_
          refine sw_goto C 13 dX5_runCommands_91 (by decide) ?_
          exact ih13 (i + 1) _ _ _ _ _ _ (by omega) (by rw [(zPerf_o (by omega) ht4 c63)]; exact hcN) (zPerf_now hw hc7 c63) (hal.perf (by decide) ht4 c63) (hcm.same (fun a b _ => (zPerf_o (by omega) ht4 c63))) (by unfold zHist at *; rw [(zPerf_o (by omega) ht4 c63), (zPerf_o (by omega) ht4 c63)]; exact hhi) (by rw [show cN - i = cN - (i + 1) + 1 from by omega, zRunL, if_pos c63] at hq; exact hq) (by omega)
        · refine sw_aload_0 C dX5_runCommands_66 ?_
          refine sw_getR C (o' := 25) fX5_10 rfl (by decide) rfl rfl (by decide) dX5_runCommands_67 ?_
          refine sw_aload_0 C dX5_runCommands_70 ?_
          refine sw_getR C (o' := 41) fX5_16 rfl (by decide) rfl rfl (by decide) dX5_runCommands_71 ?_
          refine sn_cV1v C vX3_copyFrom lX5_288 rfl (by decide) rfl rfl dX5_runCommands_74 (Nat.le_of_ble_eq_true rfl) (c_X3_copyFrom hl zSc25 zSc41 (by unfold zAp; omega) hal) (by decide) (by decide) (by decide) ?_
          refine sw_iload_1 C dX5_runCommands_77 ?_
          exact sn_iret C rfl hF dX5_runCommands_78 (by decide) (by decide) (by rw [show cN - i = cN - (i + 1) + 1 from by omega, zRunL, if_neg c63] at hq; rw [← hq]) (by rw [show cN - i = cN - (i + 1) + 1 from by omega, zRunL, if_neg c63] at hq; rw [← hq]) rfl rfl
  exact L13 _ 0 _ _ _ _ _ _ (by omega) ((zScCp_o (by decide)).trans hcN0) (hw0.cp (by decide)) (zAlv.cp hw0 (by decide)) (hcm0.same (fun a b _ => zScCp_o (by omega))) (by unfold zHist at *; rw [zScCp_o (by decide), zScCp_o (by decide)]; exact hhi0) (by rw [← hcN0]; rfl) (Nat.lt_succ_self _)
