def zAlv (S : zS) (b : Nat) : Prop := ∀ r, r < 4 → S (b + 8 + 2 * r) 2 ≤ 1

set_option maxRecDepth 100000 in
set_option maxHeartbeats 4000000 in
theorem c_X5_undo {l : Launch} (hl : l.stackTraces = false) {G : zG} {S : zS} {J : Int64} {E : UInt64} (hh : zHist S) (h0 : ¬ S 1 1 = 0) (hal : zAlv S (73 + 16 * ((S 1 2 + 7) % 8))) : nCR l G mX5_undo 6 0 0 [.ref 0] S J E (some (zi (S 1 1 - 1))) (zBack S 25) J E := by
  refine nCR.of hl (by decide) rfl (Nat.le_of_ble_eq_true rfl) (ls := [some (.ref 0)]) rfl (fun X C hF hX => ?_)
  subst hX
  have hh1 := hh.1
  have hh2 := hh.2
  refine sw_aload_0 C dX5_undo_0 ?_
  refine sw_getR C (o' := 1) fX5_25 rfl (by decide) rfl rfl (by decide) dX5_undo_1 ?_
  refine sn_getI C fX5_279 rfl (by decide) rfl dX5_undo_4 ?_
  refine sn_if_ne C 21 (by omega) dX5_undo_7 (by decide) (fun c7 => ?_) (fun c7 => ?_)
  · refine sw_aload_0 C dX5_undo_21 ?_
    refine sw_getR C (o' := 1) fX5_25 rfl (by decide) rfl rfl (by decide) dX5_undo_22 ?_
    refine sw_aload_0 C dX5_undo_25 ?_
    refine sw_getR C (o' := 25) fX5_10 rfl (by decide) rfl rfl (by decide) dX5_undo_26 ?_
    refine sn_cV1v C vX0_takeBack lX5_284 rfl (by decide) rfl rfl dX5_undo_29 (Nat.le_of_ble_eq_true rfl) (c_X0_takeBack hl zSc25 (by decide) hh.1 (by omega) hal) (by decide) (by decide) (by decide) ?_
    refine sw_aload_0 C dX5_undo_32 ?_
    refine sw_getR C (o' := 1) fX5_25 rfl (by decide) rfl rfl (by decide) dX5_undo_33 ?_
    refine sn_getIe C (S 1 1 - 1) (by unfold zBack; rw [zScCp_o (by omega), zU_s]) fX5_279 rfl (by decide) rfl dX5_undo_36 ?_
    exact sn_iret C rfl hF dX5_undo_39 (by decide) (by decide) (by first | rfl | (simp [*]; done)) rfl rfl rfl
  · omega

set_option maxRecDepth 100000 in
set_option maxHeartbeats 4000000 in
theorem t1_X5_undo {l : Launch} (hl : l.stackTraces = false) {G : zG} {S : zS} {J : Int64} {E : UInt64} (h0 : S 1 1 = 0) : nCT l G mX5_undo 6 1 6 [.ref 0] S J E "java/util/NoSuchElementException" S J E := by
  refine nCT.of hl (by decide) rfl (Nat.le_of_ble_eq_true rfl) (ls := [some (.ref 0)]) rfl (fun X C hF hX => ?_)
  subst hX
  refine sw_aload_0 C dX5_undo_0 ?_
  refine sw_getR C (o' := 1) fX5_25 rfl (by decide) rfl rfl (by decide) dX5_undo_1 ?_
  refine sn_getI C fX5_279 rfl (by decide) rfl dX5_undo_4 ?_
  refine sn_if_ne C 21 (by omega) dX5_undo_7 (by decide) (fun c7 => ?_) (fun c7 => ?_)
  · omega
  · exact sw_throwNW C (text := "there is nothing to undo") qX5_145 (by decide +kernel) hF dX5_undo_10 dX5_undo_13 dX5_undo_14 dX5_undo_17 dX5_undo_20 (Nat.le_of_ble_eq_true rfl) (by decide) (by decide)

set_option maxRecDepth 100000 in
set_option maxHeartbeats 4000000 in
theorem c_X5_save {l : Launch} (hl : l.stackTraces = false) {G : zG} {S : zS} {J : Int64} {E : UInt64} {n t : Nat} (hw : zNow S n t) : nCR l G mX5_save 6 0 0 [.ref 0] S J E (some (zi n)) (zU (zScCp S 57 25) 0 7 1) J E := by
  refine nCR.of hl (by decide) rfl (Nat.le_of_ble_eq_true rfl) (ls := [some (.ref 0)]) rfl (fun X C hF hX => ?_)
  subst hX
  obtain ⟨hn, hz, ht, ht4, hnb, hhv, hdb, hru⟩ := id hw
  refine sw_aload_0 C dX5_save_0 ?_
  refine sw_getR C (o' := 57) fX5_19 rfl (by decide) rfl rfl (by decide) dX5_save_1 ?_
  refine sw_aload_0 C dX5_save_4 ?_
  refine sw_getR C (o' := 25) fX5_10 rfl (by decide) rfl rfl (by decide) dX5_save_5 ?_
  refine sn_cV1v C vX3_copyFrom lX5_288 rfl (by decide) rfl rfl dX5_save_8 (Nat.le_of_ble_eq_true rfl) (c_X3_copyFrom hl zSc57 zSc25 (by unfold zAp; omega) (fun r hr => by have := (hru r hr).2.1; rwa [show 33 + 2 * r = 25 + 8 + 2 * r by omega] at this)) (by decide) (by decide) (by decide) ?_
  refine sw_aload_0 C dX5_save_11 ?_
  refine sn_iconst C 1 (by decide) dX5_save_12 ?_
  refine sn_putZN C (by decide) fX5_50 rfl (by decide) rfl rfl dX5_save_13 ?_
  refine sw_aload_0 C dX5_save_16 ?_
  refine sw_getR C (o' := 25) fX5_10 rfl (by decide) rfl rfl (by decide) dX5_save_17 ?_
  refine sw_getR C (o' := 26) fX5_65 rfl (by decide) rfl rfl (by decide) dX5_save_20 ?_
  refine sn_getIe C (n) (by rw [zU_o (by decide), zScCp_o (by decide)]; exact hn) fX5_69 rfl (by decide) rfl dX5_save_23 ?_
  exact sn_iret C rfl hF dX5_save_26 (by decide) (by decide) (by first | rfl | (simp [*]; done)) rfl rfl rfl

set_option maxRecDepth 100000 in
set_option maxHeartbeats 4000000 in
theorem c_X5_restore {l : Launch} (hl : l.stackTraces = false) {G : zG} {S : zS} {J : Int64} {E : UInt64} (h7 : S 0 7 ≤ 1) (h0 : ¬ S 0 7 = 0) (hal : zAlv S 57) : nCR l G mX5_restore 6 0 0 [.ref 0] S J E (some (zi (S 58 0))) (zU (zScCp S 25 57) 1 1 0) J E := by
  refine nCR.of hl (by decide) rfl (Nat.le_of_ble_eq_true rfl) (ls := [some (.ref 0)]) rfl (fun X C hF hX => ?_)
  subst hX
  refine sw_aload_0 C dX5_restore_0 ?_
  refine sn_getI C fX5_50 rfl (by decide) rfl dX5_restore_1 ?_
  refine sn_if_ne C 18 (by omega) dX5_restore_4 (by decide) (fun c4 => ?_) (fun c4 => ?_)
  · refine sw_aload_0 C dX5_restore_18 ?_
    refine sw_getR C (o' := 25) fX5_10 rfl (by decide) rfl rfl (by decide) dX5_restore_19 ?_
    refine sw_aload_0 C dX5_restore_22 ?_
    refine sw_getR C (o' := 57) fX5_19 rfl (by decide) rfl rfl (by decide) dX5_restore_23 ?_
    refine sn_cV1v C vX3_copyFrom lX5_288 rfl (by decide) rfl rfl dX5_restore_26 (Nat.le_of_ble_eq_true rfl) (c_X3_copyFrom hl zSc25 zSc57 (by unfold zAp; omega) hal) (by decide) (by decide) (by decide) ?_
    refine sw_aload_0 C dX5_restore_29 ?_
    refine sw_getR C (o' := 1) fX5_25 rfl (by decide) rfl rfl (by decide) dX5_restore_30 ?_
    refine sn_iconst C 0 (by decide) dX5_restore_33 ?_
    refine sn_putI C fX5_279 rfl (by decide) rfl rfl dX5_restore_34 ?_
    refine sw_aload_0 C dX5_restore_37 ?_
    refine sw_getR C (o' := 25) fX5_10 rfl (by decide) rfl rfl (by decide) dX5_restore_38 ?_
    refine sw_getR C (o' := 26) fX5_65 rfl (by decide) rfl rfl (by decide) dX5_restore_41 ?_
    refine sn_getIe C (S 58 0) (by rw [zU_o (by decide)]; exact (zScCp_is (by unfold zAp; omega)).1 0 (by decide)) fX5_69 rfl (by decide) rfl dX5_restore_44 ?_
    exact sn_iret C rfl hF dX5_restore_47 (by decide) (by decide) (by first | rfl | (simp [*]; done)) rfl rfl rfl
  · omega

set_option maxRecDepth 100000 in
set_option maxHeartbeats 4000000 in
theorem t3_X5_restore {l : Launch} (hl : l.stackTraces = false) {G : zG} {S : zS} {J : Int64} {E : UInt64} (h0 : S 0 7 = 0) : nCT l G mX5_restore 6 1 6 [.ref 0] S J E "java/lang/IllegalStateException" S J E := by
  refine nCT.of hl (by decide) rfl (Nat.le_of_ble_eq_true rfl) (ls := [some (.ref 0)]) rfl (fun X C hF hX => ?_)
  subst hX
  refine sw_aload_0 C dX5_restore_0 ?_
  refine sn_getI C fX5_50 rfl (by decide) rfl dX5_restore_1 ?_
  refine sn_if_ne C 18 (by omega) dX5_restore_4 (by decide) (fun c4 => ?_) (fun c4 => ?_)
  · omega
  · exact sw_throwW C (text := "there is no snapshot") zThS qX5_174 (by decide +kernel) hF dX5_restore_7 dX5_restore_10 dX5_restore_11 dX5_restore_14 dX5_restore_17 (by decide) (Nat.le_of_ble_eq_true rfl) (by decide) (by decide)

set_option maxRecDepth 100000 in
set_option maxHeartbeats 4000000 in
theorem c_X4_put {l : Launch} (hl : l.stackTraces = false) {G : zG} {S : zS} {J : Int64} {E : UInt64} {x : Nat} (hx : x < 65536) (hl5 : S 5 1 < 60) : nCR l G mX4_put 0 0 0 [.ref 5, zi x] S J E none (zU (zU S 6 (S 5 1) x) 5 1 (S 5 1 + 1)) J E := by
  refine nCR.of hl (by decide) rfl (Nat.le_of_ble_eq_true rfl) (ls := [some (.ref 5), some (zi x)]) rfl (fun X C hF hX => ?_)
  subst hX
  refine sw_aload_0 C dX4_put_0 ?_
  refine sw_getR C (o' := 6) fX4_9 rfl (by decide) rfl rfl (by decide) dX4_put_1 ?_
  refine sw_aload_0 C dX4_put_4 ?_
  refine sn_getI C fX4_15 rfl (by decide) rfl dX4_put_5 ?_
  refine sw_iload_1 C dX4_put_8 ?_
  refine sn_cast C rfl (by decide) (by omega) (by decide) (by exact hx) dX4_put_9 ?_
  refine sw_aload_0 C dX4_put_10 ?_
  refine sw_dup C rfl dX4_put_11 ?_
  refine sn_getIe C (S 5 1) (zU_o (by decide)) fX4_15 rfl (by decide) rfl dX4_put_12 ?_
  refine sn_iconst C 1 (by decide) dX4_put_15 ?_
  refine sn_iadd C dX4_put_16 ?_
  refine sn_putI C fX4_15 rfl (by decide) rfl rfl dX4_put_17 ?_
  exact sn_vret C rfl hF dX4_put_20 (by decide) (by decide) rfl rfl rfl

set_option maxRecDepth 100000 in
set_option maxHeartbeats 4000000 in
theorem c_X5_type {l : Launch} (hl : l.stackTraces = false) {G : zG} {S : zS} {J : Int64} {E : UInt64} {x : Nat} (hx : x < 65536) (h1 : 32 ≤ x ∧ x ≤ 126) (h2 : S 5 1 < 60) : nCR l G mX5_type 3 0 0 [.ref 0, zi x] S J E (some (zi (S 5 1 + 1))) (zU (zU S 6 (S 5 1) x) 5 1 (S 5 1 + 1)) J E := by
  refine nCR.of hl (by decide) rfl (Nat.le_of_ble_eq_true rfl) (ls := [some (.ref 0), some (zi x)]) rfl (fun X C hF hX => ?_)
  subst hX
  refine sw_iload_1 C dX5_type_0 ?_
  refine sn_bipush C 32 (by decide) dX5_type_1 ?_
  refine sn_icmp_lt C 12 (by omega) (by omega) dX5_type_3 (by decide) (fun c3 => ?_) (fun c3 => ?_)
  · omega
  · refine sw_iload_1 C dX5_type_6 ?_
    refine sn_bipush C 126 (by decide) dX5_type_7 ?_
    refine sn_icmp_le C 23 (by omega) (by omega) dX5_type_9 (by decide) (fun c9 => ?_) (fun c9 => ?_)
    · refine sw_aload_0 C dX5_type_23 ?_
      refine sw_getR C (o' := 5) fX5_39 rfl (by decide) rfl rfl (by decide) dX5_type_24 ?_
      refine sn_getI C fX5_258 rfl (by decide) rfl dX5_type_27 ?_
      refine sn_bipush C 60 (by decide) dX5_type_30 ?_
      refine sn_icmp_lt C 46 (by omega) (by omega) dX5_type_32 (by decide) (fun c32 => ?_) (fun c32 => ?_)
      · refine sw_aload_0 C dX5_type_46 ?_
        refine sw_getR C (o' := 5) fX5_39 rfl (by decide) rfl rfl (by decide) dX5_type_47 ?_
        refine sw_iload_1 C dX5_type_50 ?_
        refine sn_cV1v C vX4_put lX5_262 rfl (by decide) rfl rfl dX5_type_51 (Nat.le_of_ble_eq_true rfl) (c_X4_put hl hx h2) (by decide) (by decide) (by decide) ?_
        refine sw_aload_0 C dX5_type_54 ?_
        refine sw_getR C (o' := 5) fX5_39 rfl (by decide) rfl rfl (by decide) dX5_type_55 ?_
        refine sn_getIe C (S 5 1 + 1) zU_s fX5_258 rfl (by decide) rfl dX5_type_58 ?_
        exact sn_iret C rfl hF dX5_type_61 (by decide) (by decide) (by first | rfl | (simp [*]; done)) rfl rfl rfl
      · omega
    · omega

set_option maxRecDepth 100000 in
set_option maxHeartbeats 4000000 in
theorem t1_X5_type {l : Launch} (hl : l.stackTraces = false) {G : zG} {S : zS} {J : Int64} {E : UInt64} {x : Nat} (hx : x < 65536) (h1 : ¬ (32 ≤ x ∧ x ≤ 126)) : nCT l G mX5_type 3 1 6 [.ref 0, zi x] S J E "java/lang/IllegalArgumentException" S J E := by
  refine nCT.of hl (by decide) rfl (Nat.le_of_ble_eq_true rfl) (ls := [some (.ref 0), some (zi x)]) rfl (fun X C hF hX => ?_)
  subst hX
  refine sw_iload_1 C dX5_type_0 ?_
  refine sn_bipush C 32 (by decide) dX5_type_1 ?_
  refine sn_icmp_lt C 12 (by omega) (by omega) dX5_type_3 (by decide) (fun c3 => ?_) (fun c3 => ?_)
  · exact sw_throwW C (text := "the character code is not between 32 and 126") zThA qX5_183 (by decide +kernel) hF dX5_type_12 dX5_type_15 dX5_type_16 dX5_type_19 dX5_type_22 (by decide) (Nat.le_of_ble_eq_true rfl) (by decide) (by decide)
  · refine sw_iload_1 C dX5_type_6 ?_
    refine sn_bipush C 126 (by decide) dX5_type_7 ?_
    refine sn_icmp_le C 23 (by omega) (by omega) dX5_type_9 (by decide) (fun c9 => ?_) (fun c9 => ?_)
    · omega
    · exact sw_throwW C (text := "the character code is not between 32 and 126") zThA qX5_183 (by decide +kernel) hF dX5_type_12 dX5_type_15 dX5_type_16 dX5_type_19 dX5_type_22 (by decide) (Nat.le_of_ble_eq_true rfl) (by decide) (by decide)

set_option maxRecDepth 100000 in
set_option maxHeartbeats 4000000 in
theorem t2_X5_type {l : Launch} (hl : l.stackTraces = false) {G : zG} {S : zS} {J : Int64} {E : UInt64} {x : Nat} (hx : x < 65536) (h1 : 32 ≤ x ∧ x ≤ 126) (h2 : 60 ≤ S 5 1) (h3 : S 5 1 ≤ 60) : nCT l G mX5_type 3 1 6 [.ref 0, zi x] S J E "java/lang/IllegalStateException" S J E := by
  refine nCT.of hl (by decide) rfl (Nat.le_of_ble_eq_true rfl) (ls := [some (.ref 0), some (zi x)]) rfl (fun X C hF hX => ?_)
  subst hX
  refine sw_iload_1 C dX5_type_0 ?_
  refine sn_bipush C 32 (by decide) dX5_type_1 ?_
  refine sn_icmp_lt C 12 (by omega) (by omega) dX5_type_3 (by decide) (fun c3 => ?_) (fun c3 => ?_)
  · omega
  · refine sw_iload_1 C dX5_type_6 ?_
    refine sn_bipush C 126 (by decide) dX5_type_7 ?_
    refine sn_icmp_le C 23 (by omega) (by omega) dX5_type_9 (by decide) (fun c9 => ?_) (fun c9 => ?_)
    · refine sw_aload_0 C dX5_type_23 ?_
      refine sw_getR C (o' := 5) fX5_39 rfl (by decide) rfl rfl (by decide) dX5_type_24 ?_
      refine sn_getI C fX5_258 rfl (by decide) rfl dX5_type_27 ?_
      refine sn_bipush C 60 (by decide) dX5_type_30 ?_
      refine sn_icmp_lt C 46 (by omega) (by omega) dX5_type_32 (by decide) (fun c32 => ?_) (fun c32 => ?_)
      · omega
      · exact sw_throwW C (text := "the script buffer is full") zThS qX5_174 (by decide +kernel) hF dX5_type_35 dX5_type_38 dX5_type_39 dX5_type_42 dX5_type_45 (by decide) (Nat.le_of_ble_eq_true rfl) (by decide) (by decide)
    · omega

/-- the reader's five numbers over a script's object: reached, complete, numbers, first, second -/
def zScr (S : zS) (r c m f s : Nat) : zS := fun a b => if a = 5 then (if b = 6 then r else if b = 7 then c else if b = 8 then m else if b = 9 then f else if b = 10 then s else S a b) else S a b
theorem zScr_self {S : zS} : zScr S (S 5 6) (S 5 7) (S 5 8) (S 5 9) (S 5 10) = S := by
  funext a b
  unfold zScr
  split
  · rename_i h; subst h
    (repeat' split) <;> simp_all
  · rfl
theorem zScr_6 {S : zS} {r c m f s v : Nat} : zU (zScr S r c m f s) 5 6 v = zScr S v c m f s := by
  funext a b; unfold zU zScr
  by_cases h : a = 5 <;> by_cases h2 : b = 6 <;> simp [h, h2]
theorem zScr_7 {S : zS} {r c m f s v : Nat} : zU (zScr S r c m f s) 5 7 v = zScr S r v m f s := by
  funext a b; unfold zU zScr
  by_cases h : a = 5 <;> by_cases h2 : b = 7 <;> simp [h, h2]
theorem zScr_8 {S : zS} {r c m f s v : Nat} : zU (zScr S r c m f s) 5 8 v = zScr S r c v f s := by
  funext a b; unfold zU zScr
  by_cases h : a = 5 <;> by_cases h2 : b = 8 <;> simp [h, h2]
theorem zScr_9 {S : zS} {r c m f s v : Nat} : zU (zScr S r c m f s) 5 9 v = zScr S r c m v s := by
  funext a b; unfold zU zScr
  by_cases h : a = 5 <;> by_cases h2 : b = 9 <;> simp [h, h2]
theorem zScr_10 {S : zS} {r c m f s v : Nat} : zU (zScr S r c m f s) 5 10 v = zScr S r c m f v := by
  funext a b; unfold zU zScr
  by_cases h : a = 5 <;> by_cases h2 : b = 10 <;> simp [h, h2]
def zDgt (S : zS) (p : Nat) : Bool := decide (p < S 5 1) && (decide (48 ≤ S 6 p) && decide (S 6 p ≤ 57))
/-- digits read from p on, at most k: where they end, and their value -/
def zDig (S : zS) : Nat → Nat → Nat → Nat × Nat
  | 0, p, v => (p, v)
  | k + 1, p, v => if zDgt S p then zDig S k (p + 1) (v * 10 + (S 6 p - 48)) else (p, v)
def zTxt (S : zS) : Prop := S 5 1 ≤ 60 ∧ ∀ k, k < 60 → S 6 k < 65536
/-- one sign of a form against the text: taken or not, and the reader's numbers after it -/
def zTake (S : zS) (w r m f s : Nat) : Bool × Nat × Nat × Nat × Nat :=
  if w = 35 ∨ w = 64 then
    let q := zDig S (if w = 64 then 2 else 1) r 0
    (decide (r < q.1), q.1, m + 1, if m = 0 then q.2 else f, if m = 0 then s else q.2)
  else if r < S 5 1 ∧ S 6 r = w then (true, r + 1, m, f, s) else (false, r, m, f, s)
theorem zDig_ge {S : zS} : ∀ (k p v : Nat), p ≤ (zDig S k p v).1 ∧ (zDig S k p v).1 ≤ p + k := by
  intro k
  induction k with
  | zero => intro p v; exact ⟨Nat.le_refl _, Nat.le_refl _⟩
  | succ k ih =>
    intro p v
    rw [zDig]
    split
    · have := ih (p + 1) (v * 10 + (S 6 p - 48)); omega
    · exact ⟨Nat.le_refl _, by simp⟩
theorem zDig_len {S : zS} : ∀ (k p v : Nat), p ≤ S 5 1 → (zDig S k p v).1 ≤ S 5 1 := by
  intro k
  induction k with
  | zero => intro p v h; exact h
  | succ k ih =>
    intro p v h
    rw [zDig]
    split
    · rename_i h2
      refine ih _ _ ?_
      simp [zDgt] at h2; omega
    · exact h

set_option maxRecDepth 100000 in
set_option maxHeartbeats 4000000 in
theorem c_X4_digitFollows {l : Launch} (hl : l.stackTraces = false) {G : zG} {S : zS} {J : Int64} {E : UInt64} {r c m f s : Nat} (htx : zTxt S) (hr : r ≤ S 5 1)  : nCR l G mX4_digitFollows 0 0 0 [.ref 5] (zScr S r c m f s) J E (some (zi (zDgt S r).toNat)) (zScr S r c m f s) J E := by
  refine nCR.of hl (by decide) rfl (Nat.le_of_ble_eq_true rfl) (ls := [some (.ref 5)]) rfl (fun X C hF hX => ?_)
  subst hX
  have hl60 := htx.1
  refine sw_aload_0 C dX4_digitFollows_0 ?_
  refine sn_getIe C (r) rfl fX4_32 rfl (by decide) rfl dX4_digitFollows_1 ?_
  refine sw_aload_0 C dX4_digitFollows_4 ?_
  refine sn_getIe C (S 5 1) rfl fX4_15 rfl (by decide) rfl dX4_digitFollows_5 ?_
  refine sn_icmp_ge C 43 (by omega) (by omega) dX4_digitFollows_8 (by decide) (fun c8 => ?_) (fun c8 => ?_)
  · refine sn_iconst C 0 (by decide) dX4_digitFollows_43 ?_
    exact sn_zret C (v := false) rfl hF dX4_digitFollows_44 (by decide) (by decide) (by unfold zDgt; simp; omega) rfl rfl rfl
  · refine sw_aload_0 C dX4_digitFollows_11 ?_
    refine sw_getR C (o' := 6) fX4_9 rfl (by decide) rfl rfl (by decide) dX4_digitFollows_12 ?_
    refine sw_aload_0 C dX4_digitFollows_15 ?_
    refine sn_getIe C (r) rfl fX4_32 rfl (by decide) rfl dX4_digitFollows_16 ?_
    refine sn_calde C (S 6 r) rfl rfl (by decide) (by omega) (by decide) dX4_digitFollows_19 ?_
    refine sn_bipush C 48 (by decide) dX4_digitFollows_20 ?_
    refine sn_icmp_lt C 43 (by have := htx.2 r (by omega); omega) (by omega) dX4_digitFollows_22 (by decide) (fun c22 => ?_) (fun c22 => ?_)
    · refine sn_iconst C 0 (by decide) dX4_digitFollows_43 ?_
      exact sn_zret C (v := false) rfl hF dX4_digitFollows_44 (by decide) (by decide) (by unfold zDgt; simp; omega) rfl rfl rfl
    · refine sw_aload_0 C dX4_digitFollows_25 ?_
      refine sw_getR C (o' := 6) fX4_9 rfl (by decide) rfl rfl (by decide) dX4_digitFollows_26 ?_
      refine sw_aload_0 C dX4_digitFollows_29 ?_
      refine sn_getIe C (r) rfl fX4_32 rfl (by decide) rfl dX4_digitFollows_30 ?_
      refine sn_calde C (S 6 r) rfl rfl (by decide) (by omega) (by decide) dX4_digitFollows_33 ?_
      refine sn_bipush C 57 (by decide) dX4_digitFollows_34 ?_
      refine sn_icmp_gt C 43 (by have := htx.2 r (by omega); omega) (by omega) dX4_digitFollows_36 (by decide) (fun c36 => ?_) (fun c36 => ?_)
      · refine sn_iconst C 0 (by decide) dX4_digitFollows_43 ?_
        exact sn_zret C (v := false) rfl hF dX4_digitFollows_44 (by decide) (by decide) (by unfold zDgt; simp; omega) rfl rfl rfl
      · refine sn_iconst C 1 (by decide) dX4_digitFollows_39 ?_
        refine sw_goto C 44 dX4_digitFollows_40 (by decide) ?_
        exact sn_zret C (v := true) rfl hF dX4_digitFollows_44 (by decide) (by decide) (by unfold zDgt; simp; omega) rfl rfl rfl

set_option maxRecDepth 100000 in
set_option maxHeartbeats 4000000 in
theorem c_X4_takesNumber {l : Launch} (hl : l.stackTraces = false) {G : zG} {S : zS} {J : Int64} {E : UInt64} {r c m f s : Nat} (htx : zTxt S) (hr : r ≤ S 5 1) {k0 : Nat} (hk0 : k0 ≤ 2) (hm : m < 2 ^ 31) : nCR l G mX4_takesNumber 1 0 0 [.ref 5, zi k0] (zScr S r c m f s) J E (some (zi (decide (r < (zDig S k0 r 0).1)).toNat)) (zScr S (zDig S k0 r 0).1 c (m + 1) (if m = 0 then (zDig S k0 r 0).2 else f) (if m = 0 then s else (zDig S k0 r 0).2)) J E := by
  refine nCR.of hl (by decide) rfl (Nat.le_of_ble_eq_true rfl) (ls := [some (.ref 5), some (zi k0), none, none]) rfl (fun X C hF hX => ?_)
  subst hX
  have hl60 := htx.1
  refine sn_iconst C 0 (by decide) dX4_takesNumber_0 ?_
  refine sw_istore_2 C rfl dX4_takesNumber_1 ?_
  refine sn_iconst C 0 (by decide) dX4_takesNumber_2 ?_
  refine sw_istore_3 C rfl dX4_takesNumber_3 ?_
  have L4 : ∀ (k i : Nat) (v : Nat) (p : Nat), i ≤ k0 → (p ≤ S 5 1) → (p = r + i) → (zDig S (k0 - i) p v = zDig S k0 r 0) → k0 - i < k → SN G X 0 0 4 [some (.ref 5), some (zi k0), some (zi v), some (zi i)] [] (zScr S p c m f s) J E := by
    intro k
    induction k with
    | zero => intro i v p _ _ _ _ hk; exact absurd hk (by omega)
    | succ k ih4 =>
      intro i v p hi hpl hip hq hk
      refine sw_iload_3 C dX4_takesNumber_4 ?_
      refine sw_iload_1 C dX4_takesNumber_5 ?_
      refine sn_icmp_ge C 50 (by omega) (by omega) dX4_takesNumber_6 (by decide) (fun c6 => ?_) (fun c6 => ?_)
      · have hz : zDig S k0 r 0 = (p, v) := by first | (rw [show k0 - i = 0 from by omega] at hq; exact hq.symm) | (rw [show k0 - i = k0 - (i + 1) + 1 from by omega, zDig, c13] at hq; exact hq.symm)
        refine sw_aload_0 C dX4_takesNumber_50 ?_
        refine sn_getIe C (m) rfl fX4_39 rfl (by decide) rfl dX4_takesNumber_51 ?_
        refine sn_if_ne C 65 (by omega) dX4_takesNumber_54 (by decide) (fun c54 => ?_) (fun c54 => ?_)
        · refine sw_aload_0 C dX4_takesNumber_65 ?_
          refine sw_iload_2 C dX4_takesNumber_66 ?_
          refine sn_putI C fX4_45 rfl (by decide) rfl rfl dX4_takesNumber_67 ?_
          refine sw_aload_0 C dX4_takesNumber_70 ?_
          refine sw_dup C rfl dX4_takesNumber_71 ?_
          refine sn_getIe C (m) (by first | (rw [zScr_9]; rfl) | (rw [zScr_10]; rfl)) fX4_39 rfl (by decide) rfl dX4_takesNumber_72 ?_
          refine sn_iconst C 1 (by decide) dX4_takesNumber_75 ?_
          refine sn_iadd C dX4_takesNumber_76 ?_
          refine sn_putI C fX4_39 rfl (by decide) rfl rfl dX4_takesNumber_77 ?_
          refine sw_iload_3 C dX4_takesNumber_80 ?_
          refine sn_if_le C 88 (by omega) dX4_takesNumber_81 (by decide) (fun c81 => ?_) (fun c81 => ?_)
          · refine sn_iconst C 0 (by decide) dX4_takesNumber_88 ?_
            exact sn_zret C (v := false) rfl hF dX4_takesNumber_89 (by decide) (by decide) (by rw [hz]; simp; omega) (by rw [hz]; first | (rw [if_pos c54, if_pos c54, zScr_9, zScr_8]) | (rw [if_neg c54, if_neg c54, zScr_10, zScr_8])) rfl rfl
          · refine sn_iconst C 1 (by decide) dX4_takesNumber_84 ?_
            refine sw_goto C 89 dX4_takesNumber_85 (by decide) ?_
            exact sn_zret C (v := true) rfl hF dX4_takesNumber_89 (by decide) (by decide) (by rw [hz]; simp; omega) (by rw [hz]; first | (rw [if_pos c54, if_pos c54, zScr_9, zScr_8]) | (rw [if_neg c54, if_neg c54, zScr_10, zScr_8])) rfl rfl
        · refine sw_aload_0 C dX4_takesNumber_57 ?_
          refine sw_iload_2 C dX4_takesNumber_58 ?_
          refine sn_putI C fX4_42 rfl (by decide) rfl rfl dX4_takesNumber_59 ?_
          refine sw_goto C 70 dX4_takesNumber_62 (by decide) ?_
          refine sw_aload_0 C dX4_takesNumber_70 ?_
          refine sw_dup C rfl dX4_takesNumber_71 ?_
          refine sn_getIe C (m) (by first | (rw [zScr_9]; rfl) | (rw [zScr_10]; rfl)) fX4_39 rfl (by decide) rfl dX4_takesNumber_72 ?_
          refine sn_iconst C 1 (by decide) dX4_takesNumber_75 ?_
          refine sn_iadd C dX4_takesNumber_76 ?_
          refine sn_putI C fX4_39 rfl (by decide) rfl rfl dX4_takesNumber_77 ?_
          refine sw_iload_3 C dX4_takesNumber_80 ?_
          refine sn_if_le C 88 (by omega) dX4_takesNumber_81 (by decide) (fun c81 => ?_) (fun c81 => ?_)
          · refine sn_iconst C 0 (by decide) dX4_takesNumber_88 ?_
            exact sn_zret C (v := false) rfl hF dX4_takesNumber_89 (by decide) (by decide) (by rw [hz]; simp; omega) (by rw [hz]; first | (rw [if_pos c54, if_pos c54, zScr_9, zScr_8]) | (rw [if_neg c54, if_neg c54, zScr_10, zScr_8])) rfl rfl
          · refine sn_iconst C 1 (by decide) dX4_takesNumber_84 ?_
            refine sw_goto C 89 dX4_takesNumber_85 (by decide) ?_
            exact sn_zret C (v := true) rfl hF dX4_takesNumber_89 (by decide) (by decide) (by rw [hz]; simp; omega) (by rw [hz]; first | (rw [if_pos c54, if_pos c54, zScr_9, zScr_8]) | (rw [if_neg c54, if_neg c54, zScr_10, zScr_8])) rfl rfl
      · refine sw_aload_0 C dX4_takesNumber_9 ?_
        refine sn_cV0r C vX4_digitFollows lX4_100 rfl (by decide) rfl rfl dX4_takesNumber_10 (Nat.le_of_ble_eq_true rfl) (c_X4_digitFollows hl htx hpl) (by decide) (by decide) (by decide) ?_
        refine sn_if_eqB C 50 dX4_takesNumber_13 (by decide) (fun c13 => ?_) (fun c13 => ?_)
        · have hz : zDig S k0 r 0 = (p, v) := by first | (rw [show k0 - i = 0 from by omega] at hq; exact hq.symm) | (rw [show k0 - i = k0 - (i + 1) + 1 from by omega, zDig, c13] at hq; exact hq.symm)
          refine sw_aload_0 C dX4_takesNumber_50 ?_
          refine sn_getIe C (m) rfl fX4_39 rfl (by decide) rfl dX4_takesNumber_51 ?_
          refine sn_if_ne C 65 (by omega) dX4_takesNumber_54 (by decide) (fun c54 => ?_) (fun c54 => ?_)
          · refine sw_aload_0 C dX4_takesNumber_65 ?_
            refine sw_iload_2 C dX4_takesNumber_66 ?_
            refine sn_putI C fX4_45 rfl (by decide) rfl rfl dX4_takesNumber_67 ?_
            refine sw_aload_0 C dX4_takesNumber_70 ?_
            refine sw_dup C rfl dX4_takesNumber_71 ?_
            refine sn_getIe C (m) (by first | (rw [zScr_9]; rfl) | (rw [zScr_10]; rfl)) fX4_39 rfl (by decide) rfl dX4_takesNumber_72 ?_
            refine sn_iconst C 1 (by decide) dX4_takesNumber_75 ?_
            refine sn_iadd C dX4_takesNumber_76 ?_
            refine sn_putI C fX4_39 rfl (by decide) rfl rfl dX4_takesNumber_77 ?_
            refine sw_iload_3 C dX4_takesNumber_80 ?_
            refine sn_if_le C 88 (by omega) dX4_takesNumber_81 (by decide) (fun c81 => ?_) (fun c81 => ?_)
            · refine sn_iconst C 0 (by decide) dX4_takesNumber_88 ?_
              exact sn_zret C (v := false) rfl hF dX4_takesNumber_89 (by decide) (by decide) (by rw [hz]; simp; omega) (by rw [hz]; first | (rw [if_pos c54, if_pos c54, zScr_9, zScr_8]) | (rw [if_neg c54, if_neg c54, zScr_10, zScr_8])) rfl rfl
            · refine sn_iconst C 1 (by decide) dX4_takesNumber_84 ?_
              refine sw_goto C 89 dX4_takesNumber_85 (by decide) ?_
              exact sn_zret C (v := true) rfl hF dX4_takesNumber_89 (by decide) (by decide) (by rw [hz]; simp; omega) (by rw [hz]; first | (rw [if_pos c54, if_pos c54, zScr_9, zScr_8]) | (rw [if_neg c54, if_neg c54, zScr_10, zScr_8])) rfl rfl
          · refine sw_aload_0 C dX4_takesNumber_57 ?_
            refine sw_iload_2 C dX4_takesNumber_58 ?_
            refine sn_putI C fX4_42 rfl (by decide) rfl rfl dX4_takesNumber_59 ?_
            refine sw_goto C 70 dX4_takesNumber_62 (by decide) ?_
            refine sw_aload_0 C dX4_takesNumber_70 ?_
            refine sw_dup C rfl dX4_takesNumber_71 ?_
            refine sn_getIe C (m) (by first | (rw [zScr_9]; rfl) | (rw [zScr_10]; rfl)) fX4_39 rfl (by decide) rfl dX4_takesNumber_72 ?_
            refine sn_iconst C 1 (by decide) dX4_takesNumber_75 ?_
            refine sn_iadd C dX4_takesNumber_76 ?_
            refine sn_putI C fX4_39 rfl (by decide) rfl rfl dX4_takesNumber_77 ?_
            refine sw_iload_3 C dX4_takesNumber_80 ?_
            refine sn_if_le C 88 (by omega) dX4_takesNumber_81 (by decide) (fun c81 => ?_) (fun c81 => ?_)
            · refine sn_iconst C 0 (by decide) dX4_takesNumber_88 ?_
              exact sn_zret C (v := false) rfl hF dX4_takesNumber_89 (by decide) (by decide) (by rw [hz]; simp; omega) (by rw [hz]; first | (rw [if_pos c54, if_pos c54, zScr_9, zScr_8]) | (rw [if_neg c54, if_neg c54, zScr_10, zScr_8])) rfl rfl
            · refine sn_iconst C 1 (by decide) dX4_takesNumber_84 ?_
              refine sw_goto C 89 dX4_takesNumber_85 (by decide) ?_
              exact sn_zret C (v := true) rfl hF dX4_takesNumber_89 (by decide) (by decide) (by rw [hz]; simp; omega) (by rw [hz]; first | (rw [if_pos c54, if_pos c54, zScr_9, zScr_8]) | (rw [if_neg c54, if_neg c54, zScr_10, zScr_8])) rfl rfl
        · have h48 : p < S 5 1 ∧ 48 ≤ S 6 p := by have h9 := c13; simp [zDgt] at h9; omega
          refine sw_iload_2 C dX4_takesNumber_16 ?_
          refine sn_bipush C 10 (by decide) dX4_takesNumber_17 ?_
          refine sn_imul C dX4_takesNumber_19 ?_
          refine sw_aload_0 C dX4_takesNumber_20 ?_
          refine sw_getR C (o' := 6) fX4_9 rfl (by decide) rfl rfl (by decide) dX4_takesNumber_21 ?_
          refine sw_aload_0 C dX4_takesNumber_24 ?_
          refine sn_getIe C (p) rfl fX4_32 rfl (by decide) rfl dX4_takesNumber_25 ?_
          refine sn_calde C (S 6 p) rfl rfl (by decide) (by exact Nat.lt_of_lt_of_le h48.1 hl60) (by decide) dX4_takesNumber_28 ?_
          refine sn_bipush C 48 (by decide) dX4_takesNumber_29 ?_
          refine sn_isub C (by exact h48.2) dX4_takesNumber_31 ?_
          refine sn_iadd C dX4_takesNumber_32 ?_
          refine sw_istore_2 C rfl dX4_takesNumber_33 ?_
          refine sw_aload_0 C dX4_takesNumber_34 ?_
          refine sw_dup C rfl dX4_takesNumber_35 ?_
          refine sn_getIe C (p) rfl fX4_32 rfl (by decide) rfl dX4_takesNumber_36 ?_
          refine sn_iconst C 1 (by decide) dX4_takesNumber_39 ?_
          refine sn_iadd C dX4_takesNumber_40 ?_
          refine sn_putI C fX4_32 rfl (by decide) rfl rfl dX4_takesNumber_41 ?_
          refine sn_iinc_3 C rfl dX4_takesNumber_44 ?_
          refine sw_goto C 4 dX4_takesNumber_47 (by decide) ?_
          have hb := ih4 (i + 1) (v * 10 + (S 6 p - 48)) (p + 1) (by omega) (by have h9 := c13; simp [zDgt] at h9; omega) (by omega) (by rw [show k0 - i = k0 - (i + 1) + 1 from by omega, zDig, c13] at hq; exact hq) (by omega)
          rw [zScr_6]
          exact hb
  exact L4 _ 0 _ r (by omega) hr rfl rfl (Nat.lt_succ_self _)

set_option maxRecDepth 100000 in
set_option maxHeartbeats 4000000 in
theorem c_X4_takes {l : Launch} (hl : l.stackTraces = false) {G : zG} {S : zS} {J : Int64} {E : UInt64} {r c m f s : Nat} (htx : zTxt S) (hr : r ≤ S 5 1) {w : Nat} (hw : w < 65536) (hm : m < 2 ^ 31) : nCR l G mX4_takes 2 0 0 [.ref 5, zi w] (zScr S r c m f s) J E (some (zi (zTake S w r m f s).1.toNat)) (zScr S (zTake S w r m f s).2.1 c (zTake S w r m f s).2.2.1 (zTake S w r m f s).2.2.2.1 (zTake S w r m f s).2.2.2.2) J E := by
  refine nCR.of hl (by decide) rfl (Nat.le_of_ble_eq_true rfl) (ls := [some (.ref 5), some (zi w)]) rfl (fun X C hF hX => ?_)
  subst hX
  have hl60 := htx.1
  refine sw_iload_1 C dX4_takes_0 ?_
  refine sn_bipush C 35 (by decide) dX4_takes_1 ?_
  refine sn_icmp_eq C 12 (by omega) (by omega) dX4_takes_3 (by decide) (fun c3 => ?_) (fun c3 => ?_)
  · refine sw_aload_0 C dX4_takes_12 ?_
    refine sw_iload_1 C dX4_takes_13 ?_
    refine sn_bipush C 64 (by decide) dX4_takes_14 ?_
    refine sn_icmp_ne C 23 (by omega) (by omega) dX4_takes_16 (by decide) (fun c16 => ?_) (fun c16 => ?_)
    · refine sn_iconst C 1 (by decide) dX4_takes_23 ?_
      refine sn_cV1r C vX4_takesNumber lX4_96 rfl (by decide) rfl rfl dX4_takes_24 (Nat.le_of_ble_eq_true rfl) (c_X4_takesNumber hl htx hr (by omega) hm) (by decide) (by decide) (by decide) ?_
      exact sn_zret C rfl hF dX4_takes_27 (by decide) (by decide) (by unfold zTake; simp_all) (by unfold zTake; simp_all) rfl rfl
    · refine sn_iconst C 2 (by decide) dX4_takes_19 ?_
      refine sw_goto C 24 dX4_takes_20 (by decide) ?_
      refine sn_cV1r C vX4_takesNumber lX4_96 rfl (by decide) rfl rfl dX4_takes_24 (Nat.le_of_ble_eq_true rfl) (c_X4_takesNumber hl htx hr (by omega) hm) (by decide) (by decide) (by decide) ?_
      exact sn_zret C rfl hF dX4_takes_27 (by decide) (by decide) (by unfold zTake; simp_all) (by unfold zTake; simp_all) rfl rfl
  · refine sw_iload_1 C dX4_takes_6 ?_
    refine sn_bipush C 64 (by decide) dX4_takes_7 ?_
    refine sn_icmp_ne C 28 (by omega) (by omega) dX4_takes_9 (by decide) (fun c9 => ?_) (fun c9 => ?_)
    · refine sw_aload_0 C dX4_takes_28 ?_
      refine sn_getIe C (r) rfl fX4_32 rfl (by decide) rfl dX4_takes_29 ?_
      refine sw_aload_0 C dX4_takes_32 ?_
      refine sn_getIe C (S 5 1) rfl fX4_15 rfl (by decide) rfl dX4_takes_33 ?_
      refine sn_icmp_ge C 52 (by omega) (by omega) dX4_takes_36 (by decide) (fun c36 => ?_) (fun c36 => ?_)
      · refine sn_iconst C 0 (by decide) dX4_takes_52 ?_
        exact sn_zret C (v := false) rfl hF dX4_takes_53 (by decide) (by decide) (by unfold zTake; rw [if_neg (by omega), if_neg (by omega)]) (by unfold zTake; rw [if_neg (by omega), if_neg (by omega)]) rfl rfl
      · refine sw_aload_0 C dX4_takes_39 ?_
        refine sw_getR C (o' := 6) fX4_9 rfl (by decide) rfl rfl (by decide) dX4_takes_40 ?_
        refine sw_aload_0 C dX4_takes_43 ?_
        refine sn_getIe C (r) rfl fX4_32 rfl (by decide) rfl dX4_takes_44 ?_
        refine sn_calde C (S 6 r) rfl rfl (by decide) (by omega) (by decide) dX4_takes_47 ?_
        refine sw_iload_1 C dX4_takes_48 ?_
        refine sn_icmp_eq C 54 (by have := htx.2 r (by omega); omega) (by omega) dX4_takes_49 (by decide) (fun c49 => ?_) (fun c49 => ?_)
        · refine sw_aload_0 C dX4_takes_54 ?_
          refine sw_dup C rfl dX4_takes_55 ?_
          refine sn_getIe C (r) rfl fX4_32 rfl (by decide) rfl dX4_takes_56 ?_
          refine sn_iconst C 1 (by decide) dX4_takes_59 ?_
          refine sn_iadd C dX4_takes_60 ?_
          refine sn_putI C fX4_32 rfl (by decide) rfl rfl dX4_takes_61 ?_
          refine sn_iconst C 1 (by decide) dX4_takes_64 ?_
          exact sn_zret C (v := true) rfl hF dX4_takes_65 (by decide) (by decide) (by unfold zTake; rw [if_neg (by omega), if_pos (by omega)]) (by rw [zScr_6]; unfold zTake; rw [if_neg (by omega), if_pos (by omega)]) rfl rfl
        · refine sn_iconst C 0 (by decide) dX4_takes_52 ?_
          exact sn_zret C (v := false) rfl hF dX4_takes_53 (by decide) (by decide) (by unfold zTake; rw [if_neg (by omega), if_neg (by omega)]) (by unfold zTake; rw [if_neg (by omega), if_neg (by omega)]) rfl rfl
    · refine sw_aload_0 C dX4_takes_12 ?_
      refine sw_iload_1 C dX4_takes_13 ?_
      refine sn_bipush C 64 (by decide) dX4_takes_14 ?_
      refine sn_icmp_ne C 23 (by omega) (by omega) dX4_takes_16 (by decide) (fun c16 => ?_) (fun c16 => ?_)
      · refine sn_iconst C 1 (by decide) dX4_takes_23 ?_
        refine sn_cV1r C vX4_takesNumber lX4_96 rfl (by decide) rfl rfl dX4_takes_24 (Nat.le_of_ble_eq_true rfl) (c_X4_takesNumber hl htx hr (by omega) hm) (by decide) (by decide) (by decide) ?_
        exact sn_zret C rfl hF dX4_takes_27 (by decide) (by decide) (by unfold zTake; simp_all) (by unfold zTake; simp_all) rfl rfl
      · refine sn_iconst C 2 (by decide) dX4_takes_19 ?_
        refine sw_goto C 24 dX4_takes_20 (by decide) ?_
        refine sn_cV1r C vX4_takesNumber lX4_96 rfl (by decide) rfl rfl dX4_takes_24 (Nat.le_of_ble_eq_true rfl) (c_X4_takesNumber hl htx hr (by omega) hm) (by decide) (by decide) (by decide) ?_
        exact sn_zret C rfl hF dX4_takes_27 (by decide) (by decide) (by unfold zTake; simp_all) (by unfold zTake; simp_all) rfl rfl
