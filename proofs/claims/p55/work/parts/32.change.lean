/-- the refusal and the doing of a change, by its kind -/
def zRef (S : zS) (n t k x y : Nat) : Nat := match k with
  | 0 => zrAdd n x y
  | 1 => zrJoin S n x y
  | 2 => zrCut S n x y
  | 3 => zrStart n t x y
  | 4 => zrConv S n t x y
  | 5 => zrSil S t x
  | 6 => zrRev S t x y
  | 7 => zrMove S n x y
  | _ => if 1 ≤ x ∧ x ≤ 20 then 0 else 2
def zPerf (S : zS) (n t k x y : Nat) : Nat × zS := match k with
  | 0 => (n, zAddL S n x y)
  | 1 => (S 26 1 + 1, zJoin S x y)
  | 2 => (S 26 1 + 4294967295, zCut S x y)
  | 3 => (t, zBegin S t x y)
  | 4 => zConvert S x y
  | 5 => (zpop (S (33 + 2 * x) 3), zU S (33 + 2 * x) 2 0)
  | 6 => (S (33 + 2 * x) 1, zU (zU S (33 + 2 * x) 2 1) (33 + 2 * x) 1 y)
  | 7 => (S 30 x, zMoveL S x y)
  | _ => zPassR n t x S
theorem zRef_le {S : zS} {n t k x y : Nat} : zRef S n t k x y ≤ 4 := by
  unfold zRef
  split <;> (first | unfold zrAdd | unfold zrJoin | unfold zrCut | unfold zrStart | unfold zrConv | unfold zrSil | unfold zrRev | unfold zrMove | skip) <;> (repeat' split) <;> omega

theorem zLt1 {x : Nat} (hx : x < 2 ^ 32) (h : nI x < nI 1) : x = 0 ∨ 2 ^ 31 ≤ x := by
  by_cases h2 : x < 2 ^ 31
  · have := (nI_ltI h2 (by decide)).mp h; omega
  · omega
theorem zNlt1 {x : Nat} (hx : x < 2 ^ 32) (h : ¬ nI x < nI 1) : 1 ≤ x ∧ x < 2 ^ 31 := by
  by_cases h2 : x < 2 ^ 31
  · have h3 : ¬ x < 1 := fun q => h ((nI_ltI h2 (by decide)).mpr q)
    omega
  · exfalso
    apply h
    have h4 : nI x < 0 := (nI_lt0 hx).mpr (by omega)
    have h5 : (0 : Int32) < nI 1 := by decide
    rw [Int32.lt_iff_toInt_lt] at *
    omega

set_option maxRecDepth 100000 in
set_option maxHeartbeats 4000000 in
theorem c0_X5_refusalOf {l : Launch} (hl : l.stackTraces = false) {G : zG} {S : zS} {J : Int64} {E : UInt64} {n t : Nat} (hw : zNow S n t) {x y : Nat} (hx : x < 2 ^ 32) (hy : y < 2 ^ 32) : nCR l G mX5_refusalOf 4 0 0 [.ref 0, zi 0, zi x, zi y] S J E (some (zi (zRef S n t 0 x y))) S J E := by
  refine nCR.of hl (by decide) rfl (Nat.le_of_ble_eq_true rfl) (ls := [some (.ref 0), some (zi 0), some (zi x), some (zi y)]) rfl (fun X C hF hX => ?_)
  subst hX
  obtain ⟨hn, hz, ht, ht4, hnb, hhv, hdb, hru⟩ := id hw
  refine sw_iload_1 C dX5_refusalOf_0 ?_
  refine sw_tableIn C (off := 47) 48 dX5_refusalOf_1 (by decide) (by decide) (by decide +kernel) (by decide) ?_
  refine sw_aload_0 C dX5_refusalOf_48 ?_
  refine sw_getR C (o' := 25) fX5_10 rfl (by decide) rfl rfl (by decide) dX5_refusalOf_49 ?_
  refine sw_iload_2 C dX5_refusalOf_52 ?_
  refine sw_iload_3 C dX5_refusalOf_53 ?_
  refine sn_cV2r C vX3_refusalToAdd lX5_328 rfl (by decide) rfl rfl dX5_refusalOf_54 (Nat.le_of_ble_eq_true rfl) (c_X3_refusalToAdd hl hn hz hx hy) (by decide) (by decide) (by decide) ?_
  exact sn_iret C rfl hF dX5_refusalOf_57 (by decide) (by decide) (by rfl) rfl rfl rfl

set_option maxRecDepth 100000 in
set_option maxHeartbeats 4000000 in
theorem c1_X5_refusalOf {l : Launch} (hl : l.stackTraces = false) {G : zG} {S : zS} {J : Int64} {E : UInt64} {n t : Nat} (hw : zNow S n t) {x y : Nat} (hx : x < 2 ^ 32) (hy : y < 2 ^ 32) : nCR l G mX5_refusalOf 4 0 0 [.ref 0, zi 1, zi x, zi y] S J E (some (zi (zRef S n t 1 x y))) S J E := by
  refine nCR.of hl (by decide) rfl (Nat.le_of_ble_eq_true rfl) (ls := [some (.ref 0), some (zi 1), some (zi x), some (zi y)]) rfl (fun X C hF hX => ?_)
  subst hX
  obtain ⟨hn, hz, ht, ht4, hnb, hhv, hdb, hru⟩ := id hw
  refine sw_iload_1 C dX5_refusalOf_0 ?_
  refine sw_tableIn C (off := 57) 58 dX5_refusalOf_1 (by decide) (by decide) (by decide +kernel) (by decide) ?_
  refine sw_aload_0 C dX5_refusalOf_58 ?_
  refine sw_getR C (o' := 25) fX5_10 rfl (by decide) rfl rfl (by decide) dX5_refusalOf_59 ?_
  refine sw_iload_2 C dX5_refusalOf_62 ?_
  refine sw_iload_3 C dX5_refusalOf_63 ?_
  refine sn_cV2r C vX3_refusalToJoin lX5_331 rfl (by decide) rfl rfl dX5_refusalOf_64 (Nat.le_of_ble_eq_true rfl) (c_X3_refusalToJoin hl hn hz hx hy) (by decide) (by decide) (by decide) ?_
  exact sn_iret C rfl hF dX5_refusalOf_67 (by decide) (by decide) (by rfl) rfl rfl rfl

set_option maxRecDepth 100000 in
set_option maxHeartbeats 4000000 in
theorem c2_X5_refusalOf {l : Launch} (hl : l.stackTraces = false) {G : zG} {S : zS} {J : Int64} {E : UInt64} {n t : Nat} (hw : zNow S n t) {x y : Nat} (hx : x < 2 ^ 32) (hy : y < 2 ^ 32) : nCR l G mX5_refusalOf 4 0 0 [.ref 0, zi 2, zi x, zi y] S J E (some (zi (zRef S n t 2 x y))) S J E := by
  refine nCR.of hl (by decide) rfl (Nat.le_of_ble_eq_true rfl) (ls := [some (.ref 0), some (zi 2), some (zi x), some (zi y)]) rfl (fun X C hF hX => ?_)
  subst hX
  obtain ⟨hn, hz, ht, ht4, hnb, hhv, hdb, hru⟩ := id hw
  refine sw_iload_1 C dX5_refusalOf_0 ?_
  refine sw_tableIn C (off := 67) 68 dX5_refusalOf_1 (by decide) (by decide) (by decide +kernel) (by decide) ?_
  refine sw_aload_0 C dX5_refusalOf_68 ?_
  refine sw_getR C (o' := 25) fX5_10 rfl (by decide) rfl rfl (by decide) dX5_refusalOf_69 ?_
  refine sw_iload_2 C dX5_refusalOf_72 ?_
  refine sw_iload_3 C dX5_refusalOf_73 ?_
  refine sn_cV2r C vX3_refusalToCut lX5_334 rfl (by decide) rfl rfl dX5_refusalOf_74 (Nat.le_of_ble_eq_true rfl) (c_X3_refusalToCut hl hn hz hx hy) (by decide) (by decide) (by decide) ?_
  exact sn_iret C rfl hF dX5_refusalOf_77 (by decide) (by decide) (by rfl) rfl rfl rfl

set_option maxRecDepth 100000 in
set_option maxHeartbeats 4000000 in
theorem c3_X5_refusalOf {l : Launch} (hl : l.stackTraces = false) {G : zG} {S : zS} {J : Int64} {E : UInt64} {n t : Nat} (hw : zNow S n t) {x y : Nat} (hx : x < 2 ^ 32) (hy : y < 2 ^ 32) : nCR l G mX5_refusalOf 4 0 0 [.ref 0, zi 3, zi x, zi y] S J E (some (zi (zRef S n t 3 x y))) S J E := by
  refine nCR.of hl (by decide) rfl (Nat.le_of_ble_eq_true rfl) (ls := [some (.ref 0), some (zi 3), some (zi x), some (zi y)]) rfl (fun X C hF hX => ?_)
  subst hX
  obtain ⟨hn, hz, ht, ht4, hnb, hhv, hdb, hru⟩ := id hw
  refine sw_iload_1 C dX5_refusalOf_0 ?_
  refine sw_tableIn C (off := 77) 78 dX5_refusalOf_1 (by decide) (by decide) (by decide +kernel) (by decide) ?_
  refine sw_aload_0 C dX5_refusalOf_78 ?_
  refine sw_getR C (o' := 25) fX5_10 rfl (by decide) rfl rfl (by decide) dX5_refusalOf_79 ?_
  refine sw_iload_2 C dX5_refusalOf_82 ?_
  refine sw_iload_3 C dX5_refusalOf_83 ?_
  refine sn_cV2r C vX3_refusalToStart lX5_337 rfl (by decide) rfl rfl dX5_refusalOf_84 (Nat.le_of_ble_eq_true rfl) (c_X3_refusalToStart hl hn hz ht ht4 hx hy) (by decide) (by decide) (by decide) ?_
  exact sn_iret C rfl hF dX5_refusalOf_87 (by decide) (by decide) (by rfl) rfl rfl rfl

set_option maxRecDepth 100000 in
set_option maxHeartbeats 4000000 in
theorem c4_X5_refusalOf {l : Launch} (hl : l.stackTraces = false) {G : zG} {S : zS} {J : Int64} {E : UInt64} {n t : Nat} (hw : zNow S n t) {x y : Nat} (hx : x < 2 ^ 32) (hy : y < 2 ^ 32) : nCR l G mX5_refusalOf 4 0 0 [.ref 0, zi 4, zi x, zi y] S J E (some (zi (zRef S n t 4 x y))) S J E := by
  refine nCR.of hl (by decide) rfl (Nat.le_of_ble_eq_true rfl) (ls := [some (.ref 0), some (zi 4), some (zi x), some (zi y)]) rfl (fun X C hF hX => ?_)
  subst hX
  obtain ⟨hn, hz, ht, ht4, hnb, hhv, hdb, hru⟩ := id hw
  refine sw_iload_1 C dX5_refusalOf_0 ?_
  refine sw_tableIn C (off := 87) 88 dX5_refusalOf_1 (by decide) (by decide) (by decide +kernel) (by decide) ?_
  refine sw_aload_0 C dX5_refusalOf_88 ?_
  refine sw_getR C (o' := 25) fX5_10 rfl (by decide) rfl rfl (by decide) dX5_refusalOf_89 ?_
  refine sw_iload_2 C dX5_refusalOf_92 ?_
  refine sw_iload_3 C dX5_refusalOf_93 ?_
  refine sn_cV2r C vX3_refusalToConvert lX5_340 rfl (by decide) rfl rfl dX5_refusalOf_94 (Nat.le_of_ble_eq_true rfl) (c_X3_refusalToConvert hl hn hz ht ht4 hx hy) (by decide) (by decide) (by decide) ?_
  exact sn_iret C rfl hF dX5_refusalOf_97 (by decide) (by decide) (by rfl) rfl rfl rfl

set_option maxRecDepth 100000 in
set_option maxHeartbeats 4000000 in
theorem c5_X5_refusalOf {l : Launch} (hl : l.stackTraces = false) {G : zG} {S : zS} {J : Int64} {E : UInt64} {n t : Nat} (hw : zNow S n t) {x y : Nat} (hx : x < 2 ^ 32) (hy : y < 2 ^ 32) : nCR l G mX5_refusalOf 4 0 0 [.ref 0, zi 5, zi x, zi y] S J E (some (zi (zRef S n t 5 x y))) S J E := by
  refine nCR.of hl (by decide) rfl (Nat.le_of_ble_eq_true rfl) (ls := [some (.ref 0), some (zi 5), some (zi x), some (zi y)]) rfl (fun X C hF hX => ?_)
  subst hX
  obtain ⟨hn, hz, ht, ht4, hnb, hhv, hdb, hru⟩ := id hw
  refine sw_iload_1 C dX5_refusalOf_0 ?_
  refine sw_tableIn C (off := 97) 98 dX5_refusalOf_1 (by decide) (by decide) (by decide +kernel) (by decide) ?_
  refine sw_aload_0 C dX5_refusalOf_98 ?_
  refine sw_getR C (o' := 25) fX5_10 rfl (by decide) rfl rfl (by decide) dX5_refusalOf_99 ?_
  refine sw_iload_2 C dX5_refusalOf_102 ?_
  refine sn_cV1r C vX3_refusalToSilence lX5_343 rfl (by decide) rfl rfl dX5_refusalOf_103 (Nat.le_of_ble_eq_true rfl) (c_X3_refusalToSilence hl ht ht4 hx (fun r hr => (hru r hr).2.1)) (by decide) (by decide) (by decide) ?_
  exact sn_iret C rfl hF dX5_refusalOf_106 (by decide) (by decide) (by rfl) rfl rfl rfl

set_option maxRecDepth 100000 in
set_option maxHeartbeats 4000000 in
theorem c6_X5_refusalOf {l : Launch} (hl : l.stackTraces = false) {G : zG} {S : zS} {J : Int64} {E : UInt64} {n t : Nat} (hw : zNow S n t) {x y : Nat} (hx : x < 2 ^ 32) (hy : y < 2 ^ 32) : nCR l G mX5_refusalOf 4 0 0 [.ref 0, zi 6, zi x, zi y] S J E (some (zi (zRef S n t 6 x y))) S J E := by
  refine nCR.of hl (by decide) rfl (Nat.le_of_ble_eq_true rfl) (ls := [some (.ref 0), some (zi 6), some (zi x), some (zi y)]) rfl (fun X C hF hX => ?_)
  subst hX
  obtain ⟨hn, hz, ht, ht4, hnb, hhv, hdb, hru⟩ := id hw
  refine sw_iload_1 C dX5_refusalOf_0 ?_
  refine sw_tableIn C (off := 106) 107 dX5_refusalOf_1 (by decide) (by decide) (by decide +kernel) (by decide) ?_
  refine sw_aload_0 C dX5_refusalOf_107 ?_
  refine sw_getR C (o' := 25) fX5_10 rfl (by decide) rfl rfl (by decide) dX5_refusalOf_108 ?_
  refine sw_iload_2 C dX5_refusalOf_111 ?_
  refine sw_iload_3 C dX5_refusalOf_112 ?_
  refine sn_cV2r C vX3_refusalToRevive lX5_346 rfl (by decide) rfl rfl dX5_refusalOf_113 (Nat.le_of_ble_eq_true rfl) (c_X3_refusalToRevive hl ht ht4 hx hy (fun r hr => (hru r hr).2.1)) (by decide) (by decide) (by decide) ?_
  exact sn_iret C rfl hF dX5_refusalOf_116 (by decide) (by decide) (by rfl) rfl rfl rfl

set_option maxRecDepth 100000 in
set_option maxHeartbeats 4000000 in
theorem c7_X5_refusalOf {l : Launch} (hl : l.stackTraces = false) {G : zG} {S : zS} {J : Int64} {E : UInt64} {n t : Nat} (hw : zNow S n t) {x y : Nat} (hx : x < 2 ^ 32) (hy : y < 2 ^ 32) : nCR l G mX5_refusalOf 4 0 0 [.ref 0, zi 7, zi x, zi y] S J E (some (zi (zRef S n t 7 x y))) S J E := by
  refine nCR.of hl (by decide) rfl (Nat.le_of_ble_eq_true rfl) (ls := [some (.ref 0), some (zi 7), some (zi x), some (zi y)]) rfl (fun X C hF hX => ?_)
  subst hX
  obtain ⟨hn, hz, ht, ht4, hnb, hhv, hdb, hru⟩ := id hw
  refine sw_iload_1 C dX5_refusalOf_0 ?_
  refine sw_tableIn C (off := 116) 117 dX5_refusalOf_1 (by decide) (by decide) (by decide +kernel) (by decide) ?_
  refine sw_aload_0 C dX5_refusalOf_117 ?_
  refine sw_getR C (o' := 25) fX5_10 rfl (by decide) rfl rfl (by decide) dX5_refusalOf_118 ?_
  refine sw_iload_2 C dX5_refusalOf_121 ?_
  refine sw_iload_3 C dX5_refusalOf_122 ?_
  refine sn_cV2r C vX3_refusalToMove lX5_349 rfl (by decide) rfl rfl dX5_refusalOf_123 (Nat.le_of_ble_eq_true rfl) (c_X3_refusalToMove hl hn hz hx hy (fun e he => hhv e (by omega))) (by decide) (by decide) (by decide) ?_
  exact sn_iret C rfl hF dX5_refusalOf_126 (by decide) (by decide) (by rfl) rfl rfl rfl

set_option maxRecDepth 100000 in
set_option maxHeartbeats 4000000 in
theorem c8_X5_refusalOf {l : Launch} (hl : l.stackTraces = false) {G : zG} {S : zS} {J : Int64} {E : UInt64} {n t : Nat} (hw : zNow S n t) {x y : Nat} (hx : x < 2 ^ 32) (hy : y < 2 ^ 32) : nCR l G mX5_refusalOf 4 0 0 [.ref 0, zi 8, zi x, zi y] S J E (some (zi (zRef S n t 8 x y))) S J E := by
  refine nCR.of hl (by decide) rfl (Nat.le_of_ble_eq_true rfl) (ls := [some (.ref 0), some (zi 8), some (zi x), some (zi y)]) rfl (fun X C hF hX => ?_)
  subst hX
  obtain ⟨hn, hz, ht, ht4, hnb, hhv, hdb, hru⟩ := id hw
  refine sw_iload_1 C dX5_refusalOf_0 ?_
  refine sw_tableOut C 127 dX5_refusalOf_1 (by decide) (by decide) ?_
  refine sw_iload_2 C dX5_refusalOf_127 ?_
  refine sn_iconst C 1 (by decide) dX5_refusalOf_128 ?_
  refine sw_icmp_lt C 138 dX5_refusalOf_129 (by decide) (fun c129 => ?_) (fun c129 => ?_)
  · have c129 := zLt1 hx c129
    refine sn_iconst C 2 (by decide) dX5_refusalOf_138 ?_
    refine sw_goto C 143 dX5_refusalOf_139 (by decide) ?_
    exact sn_iret C rfl hF dX5_refusalOf_143 (by decide) (by decide) (by unfold zRef; simp; omega) rfl rfl rfl
  · have c129 := zNlt1 hx c129
    refine sw_iload_2 C dX5_refusalOf_132 ?_
    refine sn_bipush C 20 (by decide) dX5_refusalOf_133 ?_
    refine sn_icmp_le C 142 (by omega) (by omega) dX5_refusalOf_135 (by decide) (fun c135 => ?_) (fun c135 => ?_)
    · refine sn_iconst C 0 (by decide) dX5_refusalOf_142 ?_
      exact sn_iret C rfl hF dX5_refusalOf_143 (by decide) (by decide) (by unfold zRef; simp; omega) rfl rfl rfl
    · refine sn_iconst C 2 (by decide) dX5_refusalOf_138 ?_
      refine sw_goto C 143 dX5_refusalOf_139 (by decide) ?_
      exact sn_iret C rfl hF dX5_refusalOf_143 (by decide) (by decide) (by unfold zRef; simp; omega) rfl rfl rfl

set_option maxRecDepth 100000 in
set_option maxHeartbeats 4000000 in
theorem c9_X5_refusalOf {l : Launch} (hl : l.stackTraces = false) {G : zG} {S : zS} {J : Int64} {E : UInt64} {n t : Nat} (hw : zNow S n t) {x y : Nat} (hx : x < 2 ^ 32) (hy : y < 2 ^ 32) : nCR l G mX5_refusalOf 4 0 0 [.ref 0, zi 9, zi x, zi y] S J E (some (zi (zRef S n t 9 x y))) S J E := by
  refine nCR.of hl (by decide) rfl (Nat.le_of_ble_eq_true rfl) (ls := [some (.ref 0), some (zi 9), some (zi x), some (zi y)]) rfl (fun X C hF hX => ?_)
  subst hX
  obtain ⟨hn, hz, ht, ht4, hnb, hhv, hdb, hru⟩ := id hw
  refine sw_iload_1 C dX5_refusalOf_0 ?_
  refine sw_tableOut C 127 dX5_refusalOf_1 (by decide) (by decide) ?_
  refine sw_iload_2 C dX5_refusalOf_127 ?_
  refine sn_iconst C 1 (by decide) dX5_refusalOf_128 ?_
  refine sw_icmp_lt C 138 dX5_refusalOf_129 (by decide) (fun c129 => ?_) (fun c129 => ?_)
  · have c129 := zLt1 hx c129
    refine sn_iconst C 2 (by decide) dX5_refusalOf_138 ?_
    refine sw_goto C 143 dX5_refusalOf_139 (by decide) ?_
    exact sn_iret C rfl hF dX5_refusalOf_143 (by decide) (by decide) (by unfold zRef; simp; omega) rfl rfl rfl
  · have c129 := zNlt1 hx c129
    refine sw_iload_2 C dX5_refusalOf_132 ?_
    refine sn_bipush C 20 (by decide) dX5_refusalOf_133 ?_
    refine sn_icmp_le C 142 (by omega) (by omega) dX5_refusalOf_135 (by decide) (fun c135 => ?_) (fun c135 => ?_)
    · refine sn_iconst C 0 (by decide) dX5_refusalOf_142 ?_
      exact sn_iret C rfl hF dX5_refusalOf_143 (by decide) (by decide) (by unfold zRef; simp; omega) rfl rfl rfl
    · refine sn_iconst C 2 (by decide) dX5_refusalOf_138 ?_
      refine sw_goto C 143 dX5_refusalOf_139 (by decide) ?_
      exact sn_iret C rfl hF dX5_refusalOf_143 (by decide) (by decide) (by unfold zRef; simp; omega) rfl rfl rfl

theorem c_X5_refusalOf {l : Launch} (hl : l.stackTraces = false) {G : zG} {S : zS} {J : Int64} {E : UInt64} {n t : Nat} (hw : zNow S n t) {k : Nat} (hk : k < 10) {x y : Nat} (hx : x < 2 ^ 32) (hy : y < 2 ^ 32) : nCR l G mX5_refusalOf 4 0 0 [.ref 0, zi k, zi x, zi y] S J E (some (zi (zRef S n t k x y))) S J E := by
  rcases (show k = 0 ∨ k = 1 ∨ k = 2 ∨ k = 3 ∨ k = 4 ∨ k = 5 ∨ k = 6 ∨ k = 7 ∨ k = 8 ∨ k = 9 by omega) with rfl | rfl | rfl | rfl | rfl | rfl | rfl | rfl | rfl | rfl
  · exact c0_X5_refusalOf hl hw hx hy
  · exact c1_X5_refusalOf hl hw hx hy
  · exact c2_X5_refusalOf hl hw hx hy
  · exact c3_X5_refusalOf hl hw hx hy
  · exact c4_X5_refusalOf hl hw hx hy
  · exact c5_X5_refusalOf hl hw hx hy
  · exact c6_X5_refusalOf hl hw hx hy
  · exact c7_X5_refusalOf hl hw hx hy
  · exact c8_X5_refusalOf hl hw hx hy
  · exact c9_X5_refusalOf hl hw hx hy
theorem zRef0_0 {S : zS} {n t x y : Nat} (h0 : zRef S n t 0 x y = 0) : x < 4 ∧ y ≤ 9 ∧ n < 12 := by
  change zrAdd n x y = 0 at h0; unfold zrAdd at h0; (repeat' split at h0) <;> omega
theorem zRef0_1 {S : zS} {n t x y : Nat} (h0 : zRef S n t 1 x y = 0) : x < n ∧ y < n := by
  change zrJoin S n x y = 0 at h0; unfold zrJoin at h0; (repeat' split at h0) <;> omega
theorem zRef0_2 {S : zS} {n t x y : Nat} (h0 : zRef S n t 2 x y = 0) : x < n ∧ y < n := by
  change zrCut S n x y = 0 at h0; unfold zrCut at h0; (repeat' split at h0) <;> omega
theorem zRef0_3 {S : zS} {n t x y : Nat} (h0 : zRef S n t 3 x y = 0) : x < n ∧ y ≤ 9 ∧ t < 4 := by
  change zrStart n t x y = 0 at h0; unfold zrStart at h0; (repeat' split at h0) <;> omega
theorem zRef0_4 {S : zS} {n t x y : Nat} (h0 : zRef S n t 4 x y = 0) : x < t ∧ y < n := by
  change zrConv S n t x y = 0 at h0; unfold zrConv at h0; (repeat' split at h0) <;> omega
theorem zRef0_5 {S : zS} {n t x y : Nat} (h0 : zRef S n t 5 x y = 0) : x < t := by
  change zrSil S t x = 0 at h0; unfold zrSil at h0; (repeat' split at h0) <;> omega
theorem zRef0_6 {S : zS} {n t x y : Nat} (h0 : zRef S n t 6 x y = 0) : x < t ∧ y ≤ 9 := by
  change zrRev S t x y = 0 at h0; unfold zrRev at h0; (repeat' split at h0) <;> omega
theorem zRef0_7 {S : zS} {n t x y : Nat} (h0 : zRef S n t 7 x y = 0) : x < n ∧ y < 4 := by
  change zrMove S n x y = 0 at h0; unfold zrMove at h0; (repeat' split at h0) <;> omega
theorem zRef0_8 {S : zS} {n t x y : Nat} (h0 : zRef S n t 8 x y = 0) : 1 ≤ x ∧ x ≤ 20 := by
  change (if 1 ≤ x ∧ x ≤ 20 then 0 else 2) = 0 at h0; (repeat' split at h0) <;> omega
theorem zRef0_9 {S : zS} {n t x y : Nat} (h0 : zRef S n t 9 x y = 0) : 1 ≤ x ∧ x ≤ 20 := by
  change (if 1 ≤ x ∧ x ≤ 20 then 0 else 2) = 0 at h0; (repeat' split at h0) <;> omega
set_option maxRecDepth 100000 in
set_option maxHeartbeats 4000000 in
theorem c0_X5_perform {l : Launch} (hl : l.stackTraces = false) {G : zG} {S : zS} {J : Int64} {E : UInt64} {n t : Nat} (hw : zNow S n t) {x y : Nat} (h0 : zRef S n t 0 x y = 0) : nCR l G mX5_perform 5 0 0 [.ref 0, zi 0, zi x, zi y] S J E (some (zi (zPerf S n t 0 x y).1)) (zPerf S n t 0 x y).2 J E := by
  refine nCR.of hl (by decide) rfl (Nat.le_of_ble_eq_true rfl) (ls := [some (.ref 0), some (zi 0), some (zi x), some (zi y)]) rfl (fun X C hF hX => ?_)
  subst hX
  obtain ⟨hn, hz, ht, ht4, hnb, hhv, hdb, hru⟩ := id hw
  have hfa := zRef0_0 h0
  refine sw_iload_1 C dX5_perform_0 ?_
  refine sw_tableIn C (off := 47) 48 dX5_perform_1 (by decide) (by decide) (by decide +kernel) (by decide) ?_
  refine sw_aload_0 C dX5_perform_48 ?_
  refine sw_getR C (o' := 25) fX5_10 rfl (by decide) rfl rfl (by decide) dX5_perform_49 ?_
  refine sw_iload_2 C dX5_perform_52 ?_
  refine sw_iload_3 C dX5_perform_53 ?_
  refine sn_cV2r C vX3_add lX5_352 rfl (by decide) rfl rfl dX5_perform_54 (Nat.le_of_ble_eq_true rfl) (c_X3_add hl hn (by omega)) (by decide) (by decide) (by decide) ?_
  exact sn_iret C rfl hF dX5_perform_57 (by decide) (by decide) (by rfl) rfl rfl rfl

set_option maxRecDepth 100000 in
set_option maxHeartbeats 4000000 in
theorem c1_X5_perform {l : Launch} (hl : l.stackTraces = false) {G : zG} {S : zS} {J : Int64} {E : UInt64} {n t : Nat} (hw : zNow S n t) {x y : Nat} (h0 : zRef S n t 1 x y = 0) : nCR l G mX5_perform 5 0 0 [.ref 0, zi 1, zi x, zi y] S J E (some (zi (zPerf S n t 1 x y).1)) (zPerf S n t 1 x y).2 J E := by
  refine nCR.of hl (by decide) rfl (Nat.le_of_ble_eq_true rfl) (ls := [some (.ref 0), some (zi 1), some (zi x), some (zi y)]) rfl (fun X C hF hX => ?_)
  subst hX
  obtain ⟨hn, hz, ht, ht4, hnb, hhv, hdb, hru⟩ := id hw
  have hfa := zRef0_1 h0
  refine sw_iload_1 C dX5_perform_0 ?_
  refine sw_tableIn C (off := 57) 58 dX5_perform_1 (by decide) (by decide) (by decide +kernel) (by decide) ?_
  refine sw_aload_0 C dX5_perform_58 ?_
  refine sw_getR C (o' := 25) fX5_10 rfl (by decide) rfl rfl (by decide) dX5_perform_59 ?_
  refine sw_getR C (o' := 26) fX5_65 rfl (by decide) rfl rfl (by decide) dX5_perform_62 ?_
  refine sw_iload_2 C dX5_perform_65 ?_
  refine sw_iload_3 C dX5_perform_66 ?_
  refine sn_cV2r C vX1_join lX5_355 rfl (by decide) rfl rfl dX5_perform_67 (Nat.le_of_ble_eq_true rfl) (c_X1_join hl (by omega) (by omega)) (by decide) (by decide) (by decide) ?_
  exact sn_iret C rfl hF dX5_perform_70 (by decide) (by decide) (by rfl) rfl rfl rfl

set_option maxRecDepth 100000 in
set_option maxHeartbeats 4000000 in
theorem c2_X5_perform {l : Launch} (hl : l.stackTraces = false) {G : zG} {S : zS} {J : Int64} {E : UInt64} {n t : Nat} (hw : zNow S n t) {x y : Nat} (h0 : zRef S n t 2 x y = 0) : nCR l G mX5_perform 5 0 0 [.ref 0, zi 2, zi x, zi y] S J E (some (zi (zPerf S n t 2 x y).1)) (zPerf S n t 2 x y).2 J E := by
  refine nCR.of hl (by decide) rfl (Nat.le_of_ble_eq_true rfl) (ls := [some (.ref 0), some (zi 2), some (zi x), some (zi y)]) rfl (fun X C hF hX => ?_)
  subst hX
  obtain ⟨hn, hz, ht, ht4, hnb, hhv, hdb, hru⟩ := id hw
  have hfa := zRef0_2 h0
  refine sw_iload_1 C dX5_perform_0 ?_
  refine sw_tableIn C (off := 70) 71 dX5_perform_1 (by decide) (by decide) (by decide +kernel) (by decide) ?_
  refine sw_aload_0 C dX5_perform_71 ?_
  refine sw_getR C (o' := 25) fX5_10 rfl (by decide) rfl rfl (by decide) dX5_perform_72 ?_
  refine sw_getR C (o' := 26) fX5_65 rfl (by decide) rfl rfl (by decide) dX5_perform_75 ?_
  refine sw_iload_2 C dX5_perform_78 ?_
  refine sw_iload_3 C dX5_perform_79 ?_
  refine sn_cV2r C vX1_cut lX5_358 rfl (by decide) rfl rfl dX5_perform_80 (Nat.le_of_ble_eq_true rfl) (c_X1_cut hl (by omega) (by omega)) (by decide) (by decide) (by decide) ?_
  exact sn_iret C rfl hF dX5_perform_83 (by decide) (by decide) (by rfl) rfl rfl rfl

set_option maxRecDepth 100000 in
set_option maxHeartbeats 4000000 in
theorem c3_X5_perform {l : Launch} (hl : l.stackTraces = false) {G : zG} {S : zS} {J : Int64} {E : UInt64} {n t : Nat} (hw : zNow S n t) {x y : Nat} (h0 : zRef S n t 3 x y = 0) : nCR l G mX5_perform 5 0 0 [.ref 0, zi 3, zi x, zi y] S J E (some (zi (zPerf S n t 3 x y).1)) (zPerf S n t 3 x y).2 J E := by
  refine nCR.of hl (by decide) rfl (Nat.le_of_ble_eq_true rfl) (ls := [some (.ref 0), some (zi 3), some (zi x), some (zi y)]) rfl (fun X C hF hX => ?_)
  subst hX
  obtain ⟨hn, hz, ht, ht4, hnb, hhv, hdb, hru⟩ := id hw
  have hfa := zRef0_3 h0
  refine sw_iload_1 C dX5_perform_0 ?_
  refine sw_tableIn C (off := 83) 84 dX5_perform_1 (by decide) (by decide) (by decide +kernel) (by decide) ?_
  refine sw_aload_0 C dX5_perform_84 ?_
  refine sw_getR C (o' := 25) fX5_10 rfl (by decide) rfl rfl (by decide) dX5_perform_85 ?_
  refine sw_iload_2 C dX5_perform_88 ?_
  refine sw_iload_3 C dX5_perform_89 ?_
  refine sn_cV2r C vX3_begin lX5_361 rfl (by decide) rfl rfl dX5_perform_90 (Nat.le_of_ble_eq_true rfl) (c_X3_begin hl ht (by omega) (by omega)) (by decide) (by decide) (by decide) ?_
  exact sn_iret C rfl hF dX5_perform_93 (by decide) (by decide) (by rfl) rfl rfl rfl

set_option maxRecDepth 100000 in
set_option maxHeartbeats 4000000 in
theorem c4_X5_perform {l : Launch} (hl : l.stackTraces = false) {G : zG} {S : zS} {J : Int64} {E : UInt64} {n t : Nat} (hw : zNow S n t) {x y : Nat} (h0 : zRef S n t 4 x y = 0) : nCR l G mX5_perform 5 0 0 [.ref 0, zi 4, zi x, zi y] S J E (some (zi (zPerf S n t 4 x y).1)) (zPerf S n t 4 x y).2 J E := by
  refine nCR.of hl (by decide) rfl (Nat.le_of_ble_eq_true rfl) (ls := [some (.ref 0), some (zi 4), some (zi x), some (zi y)]) rfl (fun X C hF hX => ?_)
  subst hX
  obtain ⟨hn, hz, ht, ht4, hnb, hhv, hdb, hru⟩ := id hw
  have hfa := zRef0_4 h0
  refine sw_iload_1 C dX5_perform_0 ?_
  refine sw_tableIn C (off := 93) 94 dX5_perform_1 (by decide) (by decide) (by decide +kernel) (by decide) ?_
  refine sw_aload_0 C dX5_perform_94 ?_
  refine sw_getR C (o' := 25) fX5_10 rfl (by decide) rfl rfl (by decide) dX5_perform_95 ?_
  refine sw_iload_2 C dX5_perform_98 ?_
  refine sw_iload_3 C dX5_perform_99 ?_
  refine sn_cV2r C vX3_convert lX5_364 rfl (by decide) rfl rfl dX5_perform_100 (Nat.le_of_ble_eq_true rfl) (c_X3_convert hl hru hdb (by omega) (by omega)) (by decide) (by decide) (by decide) ?_
  exact sn_iret C rfl hF dX5_perform_103 (by decide) (by decide) (by rfl) rfl rfl rfl

set_option maxRecDepth 100000 in
set_option maxHeartbeats 4000000 in
theorem c5_X5_perform {l : Launch} (hl : l.stackTraces = false) {G : zG} {S : zS} {J : Int64} {E : UInt64} {n t : Nat} (hw : zNow S n t) {x y : Nat} (h0 : zRef S n t 5 x y = 0) : nCR l G mX5_perform 5 0 0 [.ref 0, zi 5, zi x, zi y] S J E (some (zi (zPerf S n t 5 x y).1)) (zPerf S n t 5 x y).2 J E := by
  refine nCR.of hl (by decide) rfl (Nat.le_of_ble_eq_true rfl) (ls := [some (.ref 0), some (zi 5), some (zi x), some (zi y)]) rfl (fun X C hF hX => ?_)
  subst hX
  obtain ⟨hn, hz, ht, ht4, hnb, hhv, hdb, hru⟩ := id hw
  have hfa := zRef0_5 h0
  refine sw_iload_1 C dX5_perform_0 ?_
  refine sw_tableIn C (off := 103) 104 dX5_perform_1 (by decide) (by decide) (by decide +kernel) (by decide) ?_
  refine sw_aload_0 C dX5_perform_104 ?_
  refine sw_getR C (o' := 25) fX5_10 rfl (by decide) rfl rfl (by decide) dX5_perform_105 ?_
  refine sw_getR C (o' := 32) fX5_120 rfl (by decide) rfl rfl (by decide) dX5_perform_108 ?_
  refine sw_iload_2 C dX5_perform_111 ?_
  refine sn_aald C (o' := (33 + 2 * x)) rfl (by decide) (by decide) (by omega) (by decide) (zP32 (by omega)) (by omega) dX5_perform_112 ?_
  refine sn_cV0r C vX2_silence lX5_367 (zRu0 (by omega)).1 (zRu0 (by omega)).2.1 rfl rfl dX5_perform_113 (Nat.le_of_ble_eq_true rfl) (c_X2_silence hl (zRu0 (by omega)) (hru x (by omega)).2.2.1) (by decide) (by decide) (by decide) ?_
  exact sn_iret C rfl hF dX5_perform_116 (by decide) (by decide) (by rfl) rfl rfl rfl

set_option maxRecDepth 100000 in
set_option maxHeartbeats 4000000 in
theorem c6_X5_perform {l : Launch} (hl : l.stackTraces = false) {G : zG} {S : zS} {J : Int64} {E : UInt64} {n t : Nat} (hw : zNow S n t) {x y : Nat} (h0 : zRef S n t 6 x y = 0) : nCR l G mX5_perform 5 0 0 [.ref 0, zi 6, zi x, zi y] S J E (some (zi (zPerf S n t 6 x y).1)) (zPerf S n t 6 x y).2 J E := by
  refine nCR.of hl (by decide) rfl (Nat.le_of_ble_eq_true rfl) (ls := [some (.ref 0), some (zi 6), some (zi x), some (zi y)]) rfl (fun X C hF hX => ?_)
  subst hX
  obtain ⟨hn, hz, ht, ht4, hnb, hhv, hdb, hru⟩ := id hw
  have hfa := zRef0_6 h0
  refine sw_iload_1 C dX5_perform_0 ?_
  refine sw_tableIn C (off := 116) 117 dX5_perform_1 (by decide) (by decide) (by decide +kernel) (by decide) ?_
  refine sw_aload_0 C dX5_perform_117 ?_
  refine sw_getR C (o' := 25) fX5_10 rfl (by decide) rfl rfl (by decide) dX5_perform_118 ?_
  refine sw_getR C (o' := 32) fX5_120 rfl (by decide) rfl rfl (by decide) dX5_perform_121 ?_
  refine sw_iload_2 C dX5_perform_124 ?_
  refine sn_aald C (o' := (33 + 2 * x)) rfl (by decide) (by decide) (by omega) (by decide) (zP32 (by omega)) (by omega) dX5_perform_125 ?_
  refine sw_iload_3 C dX5_perform_126 ?_
  refine sn_cV1r C vX2_revive lX5_370 (zRu0 (by omega)).1 (zRu0 (by omega)).2.1 rfl rfl dX5_perform_127 (Nat.le_of_ble_eq_true rfl) (c_X2_revive hl (zRu0 (by omega))) (by decide) (by decide) (by decide) ?_
  exact sn_iret C rfl hF dX5_perform_130 (by decide) (by decide) (by rfl) rfl rfl rfl

set_option maxRecDepth 100000 in
set_option maxHeartbeats 4000000 in
theorem c7_X5_perform {l : Launch} (hl : l.stackTraces = false) {G : zG} {S : zS} {J : Int64} {E : UInt64} {n t : Nat} (hw : zNow S n t) {x y : Nat} (h0 : zRef S n t 7 x y = 0) : nCR l G mX5_perform 5 0 0 [.ref 0, zi 7, zi x, zi y] S J E (some (zi (zPerf S n t 7 x y).1)) (zPerf S n t 7 x y).2 J E := by
  refine nCR.of hl (by decide) rfl (Nat.le_of_ble_eq_true rfl) (ls := [some (.ref 0), some (zi 7), some (zi x), some (zi y)]) rfl (fun X C hF hX => ?_)
  subst hX
  obtain ⟨hn, hz, ht, ht4, hnb, hhv, hdb, hru⟩ := id hw
  have hfa := zRef0_7 h0
  refine sw_iload_1 C dX5_perform_0 ?_
  refine sw_tableIn C (off := 130) 131 dX5_perform_1 (by decide) (by decide) (by decide +kernel) (by decide) ?_
  refine sw_aload_0 C dX5_perform_131 ?_
  refine sw_getR C (o' := 25) fX5_10 rfl (by decide) rfl rfl (by decide) dX5_perform_132 ?_
  refine sw_iload_2 C dX5_perform_135 ?_
  refine sw_iload_3 C dX5_perform_136 ?_
  refine sn_cV2r C vX3_move lX5_373 rfl (by decide) rfl rfl dX5_perform_137 (Nat.le_of_ble_eq_true rfl) (c_X3_move hl (by omega)) (by decide) (by decide) (by decide) ?_
  exact sn_iret C rfl hF dX5_perform_140 (by decide) (by decide) (by rfl) rfl rfl rfl

set_option maxRecDepth 100000 in
set_option maxHeartbeats 4000000 in
theorem c8_X5_perform {l : Launch} (hl : l.stackTraces = false) {G : zG} {S : zS} {J : Int64} {E : UInt64} {n t : Nat} (hw : zNow S n t) {x y : Nat} (h0 : zRef S n t 8 x y = 0) : nCR l G mX5_perform 5 0 0 [.ref 0, zi 8, zi x, zi y] S J E (some (zi (zPerf S n t 8 x y).1)) (zPerf S n t 8 x y).2 J E := by
  refine nCR.of hl (by decide) rfl (Nat.le_of_ble_eq_true rfl) (ls := [some (.ref 0), some (zi 8), some (zi x), some (zi y)]) rfl (fun X C hF hX => ?_)
  subst hX
  obtain ⟨hn, hz, ht, ht4, hnb, hhv, hdb, hru⟩ := id hw
  have hfa := zRef0_8 h0
  refine sw_iload_1 C dX5_perform_0 ?_
  refine sw_tableOut C 141 dX5_perform_1 (by decide) (by decide) ?_
  refine sw_aload_0 C dX5_perform_141 ?_
  refine sw_getR C (o' := 25) fX5_10 rfl (by decide) rfl rfl (by decide) dX5_perform_142 ?_
  refine sw_iload_2 C dX5_perform_145 ?_
  refine sn_cV1r C vX3_passRounds lX5_376 rfl (by decide) rfl rfl dX5_perform_146 (Nat.le_of_ble_eq_true rfl) (c_X3_passRounds hl hw (by omega)) (by decide) (by decide) (by decide) ?_
  exact sn_iret C rfl hF dX5_perform_149 (by decide) (by decide) (by rfl) rfl rfl rfl

set_option maxRecDepth 100000 in
set_option maxHeartbeats 4000000 in
theorem c9_X5_perform {l : Launch} (hl : l.stackTraces = false) {G : zG} {S : zS} {J : Int64} {E : UInt64} {n t : Nat} (hw : zNow S n t) {x y : Nat} (h0 : zRef S n t 9 x y = 0) : nCR l G mX5_perform 5 0 0 [.ref 0, zi 9, zi x, zi y] S J E (some (zi (zPerf S n t 9 x y).1)) (zPerf S n t 9 x y).2 J E := by
  refine nCR.of hl (by decide) rfl (Nat.le_of_ble_eq_true rfl) (ls := [some (.ref 0), some (zi 9), some (zi x), some (zi y)]) rfl (fun X C hF hX => ?_)
  subst hX
  obtain ⟨hn, hz, ht, ht4, hnb, hhv, hdb, hru⟩ := id hw
  have hfa := zRef0_9 h0
  refine sw_iload_1 C dX5_perform_0 ?_
  refine sw_tableOut C 141 dX5_perform_1 (by decide) (by decide) ?_
  refine sw_aload_0 C dX5_perform_141 ?_
  refine sw_getR C (o' := 25) fX5_10 rfl (by decide) rfl rfl (by decide) dX5_perform_142 ?_
  refine sw_iload_2 C dX5_perform_145 ?_
  refine sn_cV1r C vX3_passRounds lX5_376 rfl (by decide) rfl rfl dX5_perform_146 (Nat.le_of_ble_eq_true rfl) (c_X3_passRounds hl hw (by omega)) (by decide) (by decide) (by decide) ?_
  exact sn_iret C rfl hF dX5_perform_149 (by decide) (by decide) (by rfl) rfl rfl rfl

theorem c_X5_perform {l : Launch} (hl : l.stackTraces = false) {G : zG} {S : zS} {J : Int64} {E : UInt64} {n t : Nat} (hw : zNow S n t) {k : Nat} (hk : k < 10) {x y : Nat} (h0 : zRef S n t k x y = 0) : nCR l G mX5_perform 5 0 0 [.ref 0, zi k, zi x, zi y] S J E (some (zi (zPerf S n t k x y).1)) (zPerf S n t k x y).2 J E := by
  rcases (show k = 0 ∨ k = 1 ∨ k = 2 ∨ k = 3 ∨ k = 4 ∨ k = 5 ∨ k = 6 ∨ k = 7 ∨ k = 8 ∨ k = 9 by omega) with rfl | rfl | rfl | rfl | rfl | rfl | rfl | rfl | rfl | rfl
  · exact c0_X5_perform hl hw h0
  · exact c1_X5_perform hl hw h0
  · exact c2_X5_perform hl hw h0
  · exact c3_X5_perform hl hw h0
  · exact c4_X5_perform hl hw h0
  · exact c5_X5_perform hl hw h0
  · exact c6_X5_perform hl hw h0
  · exact c7_X5_perform hl hw h0
  · exact c8_X5_perform hl hw h0
  · exact c9_X5_perform hl hw h0
theorem zKeep_o {S : zS} {b a k : Nat} (h : a ≠ 1) (h2 : a < 73) : zKeep S b a k = S a k := by
  unfold zKeep
  rw [zU_o h, zU_o h, zScCp_o (by omega)]
theorem zNow.keep {S : zS} {n t b : Nat} (h : zNow S n t) : zNow (zKeep S b) n t :=
  h.same (zKeep_o (by decide) (by decide)) (zKeep_o (by decide) (by decide)) (fun e _ => zKeep_o (by decide) (by decide)) (fun e _ => zKeep_o (by decide) (by decide)) (fun e _ => zKeep_o (by decide) (by decide)) (fun r hr => (h.2.2.2.2.2.2.2 r hr).same (fun k => zKeep_o (by omega) (by omega)))
theorem zRef_keep {S : zS} {n t b k x y : Nat} (ht4 : t ≤ 4) : zRef (zKeep S b) n t k x y = zRef S n t k x y := by
  have e1 : ∀ a c, a ≠ 1 → a < 73 → zKeep S b a c = S a c := fun a c h h2 => zKeep_o h h2
  unfold zRef
  split <;> (first | rfl | (unfold zrJoin; rw [e1 27 x (by decide) (by decide)]) | (unfold zrCut; rw [e1 27 x (by decide) (by decide)]) | (unfold zrMove; rw [e1 30 x (by decide) (by decide)]) | skip)
  · unfold zrConv
    by_cases h : x < t ∧ y < n
    · rw [if_pos h, if_pos h, e1 _ _ (by omega) (by omega)]
    · rw [if_neg h, if_neg h]
  · unfold zrSil
    by_cases h : x < t
    · rw [if_pos h, if_pos h, e1 _ _ (by omega) (by omega)]
    · rw [if_neg h, if_neg h]
  · unfold zrRev
    by_cases h : x < t
    · rw [if_pos h, if_pos h, e1 _ _ (by omega) (by omega)]
    · rw [if_neg h, if_neg h]
def zHist (S : zS) : Prop := S 1 2 < 8 ∧ S 1 1 ≤ 8
/-- a change made from outside: the state kept, then the doing -/
def zChg (S : zS) (n t k x y : Nat) : Nat × zS := zPerf (zKeep S 25) n t k x y

set_option maxRecDepth 100000 in
set_option maxHeartbeats 4000000 in
theorem c_X5_change {l : Launch} (hl : l.stackTraces = false) {G : zG} {S : zS} {J : Int64} {E : UInt64} {n t : Nat} (hw : zNow S n t) (hh : zHist S) {k : Nat} (hk : k < 10) {x y : Nat} (hx : x < 2 ^ 32) (hy : y < 2 ^ 32) (h0 : zRef S n t k x y = 0) : nCR l G mX5_change 6 0 0 [.ref 0, zi k, zi x, zi y] S J E (some (zi (zChg S n t k x y).1)) (zChg S n t k x y).2 J E := by
  refine nCR.of hl (by decide) rfl (Nat.le_of_ble_eq_true rfl) (ls := [some (.ref 0), some (zi k), some (zi x), some (zi y)]) rfl (fun X C hF hX => ?_)
  subst hX
  obtain ⟨hn, hz, ht, ht4, hnb, hhv, hdb, hru⟩ := id hw
  refine sw_aload_0 C dX5_change_0 ?_
  refine sw_iload_1 C dX5_change_1 ?_
  refine sw_iload_2 C dX5_change_2 ?_
  refine sw_iload_3 C dX5_change_3 ?_
  refine sn_cV3r C vX5_refusalOf lX5_310 rfl (by decide) rfl rfl dX5_change_4 (Nat.le_of_ble_eq_true rfl) (c_X5_refusalOf hl hw hk hx hy) (by decide) (by decide) (by decide) ?_
  refine sn_cS1v C vX5_refuse lX5_313 dX5_change_7 (Nat.le_of_ble_eq_true rfl) (c_X5_refuse hl h0) (by decide) (by decide) (by decide) ?_
  refine sw_aload_0 C dX5_change_10 ?_
  refine sw_getR C (o' := 1) fX5_25 rfl (by decide) rfl rfl (by decide) dX5_change_11 ?_
  refine sw_aload_0 C dX5_change_14 ?_
  refine sw_getR C (o' := 25) fX5_10 rfl (by decide) rfl rfl (by decide) dX5_change_15 ?_
  refine sn_cV1v C vX0_keep lX5_316 rfl (by decide) rfl rfl dX5_change_18 (Nat.le_of_ble_eq_true rfl) (c_X0_keep hl zSc25 (by decide) hh.1 hh.2 (fun r hr => (hru r hr).2.1)) (by decide) (by decide) (by decide) ?_
  refine sw_aload_0 C dX5_change_21 ?_
  refine sw_iload_1 C dX5_change_22 ?_
  refine sw_iload_2 C dX5_change_23 ?_
  refine sw_iload_3 C dX5_change_24 ?_
  refine sn_cV3r C vX5_perform lX5_319 rfl (by decide) rfl rfl dX5_change_25 (Nat.le_of_ble_eq_true rfl) (c_X5_perform hl hw.keep hk (by rw [zRef_keep ht4]; exact h0)) (by decide) (by decide) (by decide) ?_
  exact sn_iret C rfl hF dX5_change_28 (by decide) (by decide) (by rfl) rfl rfl rfl

set_option maxRecDepth 100000 in
set_option maxHeartbeats 4000000 in
theorem t1_X5_change {l : Launch} (hl : l.stackTraces = false) {G : zG} {S : zS} {J : Int64} {E : UInt64} {n t : Nat} (hw : zNow S n t) {k : Nat} (hk : k < 10) {x y : Nat} (hx : x < 2 ^ 32) (hy : y < 2 ^ 32) (h0 : zRef S n t k x y = 1) : nCT l G mX5_change 6 1 6 [.ref 0, zi k, zi x, zi y] S J E "java/lang/IndexOutOfBoundsException" S J E := by
  refine nCT.of hl (by decide) rfl (Nat.le_of_ble_eq_true rfl) (ls := [some (.ref 0), some (zi k), some (zi x), some (zi y)]) rfl (fun X C hF hX => ?_)
  subst hX
  obtain ⟨hn, hz, ht, ht4, hnb, hhv, hdb, hru⟩ := id hw
  refine sw_aload_0 C dX5_change_0 ?_
  refine sw_iload_1 C dX5_change_1 ?_
  refine sw_iload_2 C dX5_change_2 ?_
  refine sw_iload_3 C dX5_change_3 ?_
  refine sn_cV3r C vX5_refusalOf lX5_310 rfl (by decide) rfl rfl dX5_change_4 (Nat.le_of_ble_eq_true rfl) (c_X5_refusalOf hl hw hk hx hy) (by decide) (by decide) (by decide) ?_
  exact sn_cS1T C vX5_refuse kX5_313 dX5_change_7 (Nat.le_of_ble_eq_true rfl) (t1_X5_refuse hl h0) (by decide) (by decide) (by decide) hF

set_option maxRecDepth 100000 in
set_option maxHeartbeats 4000000 in
theorem t2_X5_change {l : Launch} (hl : l.stackTraces = false) {G : zG} {S : zS} {J : Int64} {E : UInt64} {n t : Nat} (hw : zNow S n t) {k : Nat} (hk : k < 10) {x y : Nat} (hx : x < 2 ^ 32) (hy : y < 2 ^ 32) (h0 : zRef S n t k x y = 2) : nCT l G mX5_change 6 1 6 [.ref 0, zi k, zi x, zi y] S J E "java/lang/IllegalArgumentException" S J E := by
  refine nCT.of hl (by decide) rfl (Nat.le_of_ble_eq_true rfl) (ls := [some (.ref 0), some (zi k), some (zi x), some (zi y)]) rfl (fun X C hF hX => ?_)
  subst hX
  obtain ⟨hn, hz, ht, ht4, hnb, hhv, hdb, hru⟩ := id hw
  refine sw_aload_0 C dX5_change_0 ?_
  refine sw_iload_1 C dX5_change_1 ?_
  refine sw_iload_2 C dX5_change_2 ?_
  refine sw_iload_3 C dX5_change_3 ?_
  refine sn_cV3r C vX5_refusalOf lX5_310 rfl (by decide) rfl rfl dX5_change_4 (Nat.le_of_ble_eq_true rfl) (c_X5_refusalOf hl hw hk hx hy) (by decide) (by decide) (by decide) ?_
  exact sn_cS1T C vX5_refuse kX5_313 dX5_change_7 (Nat.le_of_ble_eq_true rfl) (t2_X5_refuse hl h0) (by decide) (by decide) (by decide) hF

set_option maxRecDepth 100000 in
set_option maxHeartbeats 4000000 in
theorem t3_X5_change {l : Launch} (hl : l.stackTraces = false) {G : zG} {S : zS} {J : Int64} {E : UInt64} {n t : Nat} (hw : zNow S n t) {k : Nat} (hk : k < 10) {x y : Nat} (hx : x < 2 ^ 32) (hy : y < 2 ^ 32) (h0 : zRef S n t k x y = 3) : nCT l G mX5_change 6 1 6 [.ref 0, zi k, zi x, zi y] S J E "java/lang/IllegalStateException" S J E := by
  refine nCT.of hl (by decide) rfl (Nat.le_of_ble_eq_true rfl) (ls := [some (.ref 0), some (zi k), some (zi x), some (zi y)]) rfl (fun X C hF hX => ?_)
  subst hX
  obtain ⟨hn, hz, ht, ht4, hnb, hhv, hdb, hru⟩ := id hw
  refine sw_aload_0 C dX5_change_0 ?_
  refine sw_iload_1 C dX5_change_1 ?_
  refine sw_iload_2 C dX5_change_2 ?_
  refine sw_iload_3 C dX5_change_3 ?_
  refine sn_cV3r C vX5_refusalOf lX5_310 rfl (by decide) rfl rfl dX5_change_4 (Nat.le_of_ble_eq_true rfl) (c_X5_refusalOf hl hw hk hx hy) (by decide) (by decide) (by decide) ?_
  exact sn_cS1T C vX5_refuse kX5_313 dX5_change_7 (Nat.le_of_ble_eq_true rfl) (t3_X5_refuse hl h0) (by decide) (by decide) (by decide) hF

set_option maxRecDepth 100000 in
set_option maxHeartbeats 4000000 in
theorem t4_X5_change {l : Launch} (hl : l.stackTraces = false) {G : zG} {S : zS} {J : Int64} {E : UInt64} {n t : Nat} (hw : zNow S n t) {k : Nat} (hk : k < 10) {x y : Nat} (hx : x < 2 ^ 32) (hy : y < 2 ^ 32) (h0 : zRef S n t k x y = 4) : nCT l G mX5_change 6 1 6 [.ref 0, zi k, zi x, zi y] S J E "java/util/NoSuchElementException" S J E := by
  refine nCT.of hl (by decide) rfl (Nat.le_of_ble_eq_true rfl) (ls := [some (.ref 0), some (zi k), some (zi x), some (zi y)]) rfl (fun X C hF hX => ?_)
  subst hX
  obtain ⟨hn, hz, ht, ht4, hnb, hhv, hdb, hru⟩ := id hw
  refine sw_aload_0 C dX5_change_0 ?_
  refine sw_iload_1 C dX5_change_1 ?_
  refine sw_iload_2 C dX5_change_2 ?_
  refine sw_iload_3 C dX5_change_3 ?_
  refine sn_cV3r C vX5_refusalOf lX5_310 rfl (by decide) rfl rfl dX5_change_4 (Nat.le_of_ble_eq_true rfl) (c_X5_refusalOf hl hw hk hx hy) (by decide) (by decide) (by decide) ?_
  exact sn_cS1T C vX5_refuse kX5_313 dX5_change_7 (Nat.le_of_ble_eq_true rfl) (t4_X5_refuse hl h0) (by decide) (by decide) (by decide) hF

set_option maxRecDepth 100000 in
set_option maxHeartbeats 4000000 in
theorem c_X5_addListener {l : Launch} (hl : l.stackTraces = false) {G : zG} {S : zS} {J : Int64} {E : UInt64} {n t : Nat} (hw : zNow S n t) (hh : zHist S) {x y : Nat} (hx : x < 2 ^ 32) (hy : y < 2 ^ 32) (h0 : zRef S n t 0 x y = 0) : nCR l G mX5_addListener 7 0 0 [.ref 0, zi x, zi y] S J E (some (zi (zChg S n t 0 x y).1)) (zChg S n t 0 x y).2 J E := by
  refine nCR.of hl (by decide) rfl (Nat.le_of_ble_eq_true rfl) (ls := [some (.ref 0), some (zi x), some (zi y)]) rfl (fun X C hF hX => ?_)
  subst hX
  refine sw_aload_0 C dX5_addListener_0 ?_
  refine sn_iconst C 0 (by decide) dX5_addListener_1 ?_
  refine sw_iload_1 C dX5_addListener_2 ?_
  refine sw_iload_2 C dX5_addListener_3 ?_
  refine sn_cV3r C vX5_change lX5_61 rfl (by decide) rfl rfl dX5_addListener_4 (Nat.le_of_ble_eq_true rfl) (c_X5_change hl hw hh (by decide) hx hy h0) (by decide) (by decide) (by decide) ?_
  exact sn_iret C rfl hF dX5_addListener_7 (by decide) (by decide) (by rfl) rfl rfl rfl

set_option maxRecDepth 100000 in
set_option maxHeartbeats 4000000 in
theorem t2_X5_addListener {l : Launch} (hl : l.stackTraces = false) {G : zG} {S : zS} {J : Int64} {E : UInt64} {n t : Nat} (hw : zNow S n t) {x y : Nat} (hx : x < 2 ^ 32) (hy : y < 2 ^ 32) (h0 : zRef S n t 0 x y = 2) : nCT l G mX5_addListener 7 1 6 [.ref 0, zi x, zi y] S J E "java/lang/IllegalArgumentException" S J E := by
  refine nCT.of hl (by decide) rfl (Nat.le_of_ble_eq_true rfl) (ls := [some (.ref 0), some (zi x), some (zi y)]) rfl (fun X C hF hX => ?_)
  subst hX
  refine sw_aload_0 C dX5_addListener_0 ?_
  refine sn_iconst C 0 (by decide) dX5_addListener_1 ?_
  refine sw_iload_1 C dX5_addListener_2 ?_
  refine sw_iload_2 C dX5_addListener_3 ?_
  exact sn_cV3T C vX5_change kX5_61 rfl (by decide) rfl rfl dX5_addListener_4 (Nat.le_of_ble_eq_true rfl) (t2_X5_change hl hw (by decide) hx hy h0) (by decide) (by decide) (by decide) hF

set_option maxRecDepth 100000 in
set_option maxHeartbeats 4000000 in
theorem t3_X5_addListener {l : Launch} (hl : l.stackTraces = false) {G : zG} {S : zS} {J : Int64} {E : UInt64} {n t : Nat} (hw : zNow S n t) {x y : Nat} (hx : x < 2 ^ 32) (hy : y < 2 ^ 32) (h0 : zRef S n t 0 x y = 3) : nCT l G mX5_addListener 7 1 6 [.ref 0, zi x, zi y] S J E "java/lang/IllegalStateException" S J E := by
  refine nCT.of hl (by decide) rfl (Nat.le_of_ble_eq_true rfl) (ls := [some (.ref 0), some (zi x), some (zi y)]) rfl (fun X C hF hX => ?_)
  subst hX
  refine sw_aload_0 C dX5_addListener_0 ?_
  refine sn_iconst C 0 (by decide) dX5_addListener_1 ?_
  refine sw_iload_1 C dX5_addListener_2 ?_
  refine sw_iload_2 C dX5_addListener_3 ?_
  exact sn_cV3T C vX5_change kX5_61 rfl (by decide) rfl rfl dX5_addListener_4 (Nat.le_of_ble_eq_true rfl) (t3_X5_change hl hw (by decide) hx hy h0) (by decide) (by decide) (by decide) hF

set_option maxRecDepth 100000 in
set_option maxHeartbeats 4000000 in
theorem c_X5_link {l : Launch} (hl : l.stackTraces = false) {G : zG} {S : zS} {J : Int64} {E : UInt64} {n t : Nat} (hw : zNow S n t) (hh : zHist S) {x y : Nat} (hx : x < 2 ^ 32) (hy : y < 2 ^ 32) (h0 : zRef S n t 1 x y = 0) : nCR l G mX5_link 7 0 0 [.ref 0, zi x, zi y] S J E (some (zi (zChg S n t 1 x y).1)) (zChg S n t 1 x y).2 J E := by
  refine nCR.of hl (by decide) rfl (Nat.le_of_ble_eq_true rfl) (ls := [some (.ref 0), some (zi x), some (zi y)]) rfl (fun X C hF hX => ?_)
  subst hX
  refine sw_aload_0 C dX5_link_0 ?_
  refine sn_iconst C 1 (by decide) dX5_link_1 ?_
  refine sw_iload_1 C dX5_link_2 ?_
  refine sw_iload_2 C dX5_link_3 ?_
  refine sn_cV3r C vX5_change lX5_61 rfl (by decide) rfl rfl dX5_link_4 (Nat.le_of_ble_eq_true rfl) (c_X5_change hl hw hh (by decide) hx hy h0) (by decide) (by decide) (by decide) ?_
  exact sn_iret C rfl hF dX5_link_7 (by decide) (by decide) (by rfl) rfl rfl rfl

set_option maxRecDepth 100000 in
set_option maxHeartbeats 4000000 in
theorem t1_X5_link {l : Launch} (hl : l.stackTraces = false) {G : zG} {S : zS} {J : Int64} {E : UInt64} {n t : Nat} (hw : zNow S n t) {x y : Nat} (hx : x < 2 ^ 32) (hy : y < 2 ^ 32) (h0 : zRef S n t 1 x y = 1) : nCT l G mX5_link 7 1 6 [.ref 0, zi x, zi y] S J E "java/lang/IndexOutOfBoundsException" S J E := by
  refine nCT.of hl (by decide) rfl (Nat.le_of_ble_eq_true rfl) (ls := [some (.ref 0), some (zi x), some (zi y)]) rfl (fun X C hF hX => ?_)
  subst hX
  refine sw_aload_0 C dX5_link_0 ?_
  refine sn_iconst C 1 (by decide) dX5_link_1 ?_
  refine sw_iload_1 C dX5_link_2 ?_
  refine sw_iload_2 C dX5_link_3 ?_
  exact sn_cV3T C vX5_change kX5_61 rfl (by decide) rfl rfl dX5_link_4 (Nat.le_of_ble_eq_true rfl) (t1_X5_change hl hw (by decide) hx hy h0) (by decide) (by decide) (by decide) hF

set_option maxRecDepth 100000 in
set_option maxHeartbeats 4000000 in
theorem t2_X5_link {l : Launch} (hl : l.stackTraces = false) {G : zG} {S : zS} {J : Int64} {E : UInt64} {n t : Nat} (hw : zNow S n t) {x y : Nat} (hx : x < 2 ^ 32) (hy : y < 2 ^ 32) (h0 : zRef S n t 1 x y = 2) : nCT l G mX5_link 7 1 6 [.ref 0, zi x, zi y] S J E "java/lang/IllegalArgumentException" S J E := by
  refine nCT.of hl (by decide) rfl (Nat.le_of_ble_eq_true rfl) (ls := [some (.ref 0), some (zi x), some (zi y)]) rfl (fun X C hF hX => ?_)
  subst hX
  refine sw_aload_0 C dX5_link_0 ?_
  refine sn_iconst C 1 (by decide) dX5_link_1 ?_
  refine sw_iload_1 C dX5_link_2 ?_
  refine sw_iload_2 C dX5_link_3 ?_
  exact sn_cV3T C vX5_change kX5_61 rfl (by decide) rfl rfl dX5_link_4 (Nat.le_of_ble_eq_true rfl) (t2_X5_change hl hw (by decide) hx hy h0) (by decide) (by decide) (by decide) hF

set_option maxRecDepth 100000 in
set_option maxHeartbeats 4000000 in
theorem t3_X5_link {l : Launch} (hl : l.stackTraces = false) {G : zG} {S : zS} {J : Int64} {E : UInt64} {n t : Nat} (hw : zNow S n t) {x y : Nat} (hx : x < 2 ^ 32) (hy : y < 2 ^ 32) (h0 : zRef S n t 1 x y = 3) : nCT l G mX5_link 7 1 6 [.ref 0, zi x, zi y] S J E "java/lang/IllegalStateException" S J E := by
  refine nCT.of hl (by decide) rfl (Nat.le_of_ble_eq_true rfl) (ls := [some (.ref 0), some (zi x), some (zi y)]) rfl (fun X C hF hX => ?_)
  subst hX
  refine sw_aload_0 C dX5_link_0 ?_
  refine sn_iconst C 1 (by decide) dX5_link_1 ?_
  refine sw_iload_1 C dX5_link_2 ?_
  refine sw_iload_2 C dX5_link_3 ?_
  exact sn_cV3T C vX5_change kX5_61 rfl (by decide) rfl rfl dX5_link_4 (Nat.le_of_ble_eq_true rfl) (t3_X5_change hl hw (by decide) hx hy h0) (by decide) (by decide) (by decide) hF

set_option maxRecDepth 100000 in
set_option maxHeartbeats 4000000 in
theorem c_X5_unlink {l : Launch} (hl : l.stackTraces = false) {G : zG} {S : zS} {J : Int64} {E : UInt64} {n t : Nat} (hw : zNow S n t) (hh : zHist S) {x y : Nat} (hx : x < 2 ^ 32) (hy : y < 2 ^ 32) (h0 : zRef S n t 2 x y = 0) : nCR l G mX5_unlink 7 0 0 [.ref 0, zi x, zi y] S J E (some (zi (zChg S n t 2 x y).1)) (zChg S n t 2 x y).2 J E := by
  refine nCR.of hl (by decide) rfl (Nat.le_of_ble_eq_true rfl) (ls := [some (.ref 0), some (zi x), some (zi y)]) rfl (fun X C hF hX => ?_)
  subst hX
  refine sw_aload_0 C dX5_unlink_0 ?_
  refine sn_iconst C 2 (by decide) dX5_unlink_1 ?_
  refine sw_iload_1 C dX5_unlink_2 ?_
  refine sw_iload_2 C dX5_unlink_3 ?_
  refine sn_cV3r C vX5_change lX5_61 rfl (by decide) rfl rfl dX5_unlink_4 (Nat.le_of_ble_eq_true rfl) (c_X5_change hl hw hh (by decide) hx hy h0) (by decide) (by decide) (by decide) ?_
  exact sn_iret C rfl hF dX5_unlink_7 (by decide) (by decide) (by rfl) rfl rfl rfl

set_option maxRecDepth 100000 in
set_option maxHeartbeats 4000000 in
theorem t1_X5_unlink {l : Launch} (hl : l.stackTraces = false) {G : zG} {S : zS} {J : Int64} {E : UInt64} {n t : Nat} (hw : zNow S n t) {x y : Nat} (hx : x < 2 ^ 32) (hy : y < 2 ^ 32) (h0 : zRef S n t 2 x y = 1) : nCT l G mX5_unlink 7 1 6 [.ref 0, zi x, zi y] S J E "java/lang/IndexOutOfBoundsException" S J E := by
  refine nCT.of hl (by decide) rfl (Nat.le_of_ble_eq_true rfl) (ls := [some (.ref 0), some (zi x), some (zi y)]) rfl (fun X C hF hX => ?_)
  subst hX
  refine sw_aload_0 C dX5_unlink_0 ?_
  refine sn_iconst C 2 (by decide) dX5_unlink_1 ?_
  refine sw_iload_1 C dX5_unlink_2 ?_
  refine sw_iload_2 C dX5_unlink_3 ?_
  exact sn_cV3T C vX5_change kX5_61 rfl (by decide) rfl rfl dX5_unlink_4 (Nat.le_of_ble_eq_true rfl) (t1_X5_change hl hw (by decide) hx hy h0) (by decide) (by decide) (by decide) hF

set_option maxRecDepth 100000 in
set_option maxHeartbeats 4000000 in
theorem t4_X5_unlink {l : Launch} (hl : l.stackTraces = false) {G : zG} {S : zS} {J : Int64} {E : UInt64} {n t : Nat} (hw : zNow S n t) {x y : Nat} (hx : x < 2 ^ 32) (hy : y < 2 ^ 32) (h0 : zRef S n t 2 x y = 4) : nCT l G mX5_unlink 7 1 6 [.ref 0, zi x, zi y] S J E "java/util/NoSuchElementException" S J E := by
  refine nCT.of hl (by decide) rfl (Nat.le_of_ble_eq_true rfl) (ls := [some (.ref 0), some (zi x), some (zi y)]) rfl (fun X C hF hX => ?_)
  subst hX
  refine sw_aload_0 C dX5_unlink_0 ?_
  refine sn_iconst C 2 (by decide) dX5_unlink_1 ?_
  refine sw_iload_1 C dX5_unlink_2 ?_
  refine sw_iload_2 C dX5_unlink_3 ?_
  exact sn_cV3T C vX5_change kX5_61 rfl (by decide) rfl rfl dX5_unlink_4 (Nat.le_of_ble_eq_true rfl) (t4_X5_change hl hw (by decide) hx hy h0) (by decide) (by decide) (by decide) hF

set_option maxRecDepth 100000 in
set_option maxHeartbeats 4000000 in
theorem c_X5_moveListener {l : Launch} (hl : l.stackTraces = false) {G : zG} {S : zS} {J : Int64} {E : UInt64} {n t : Nat} (hw : zNow S n t) (hh : zHist S) {x y : Nat} (hx : x < 2 ^ 32) (hy : y < 2 ^ 32) (h0 : zRef S n t 7 x y = 0) : nCR l G mX5_moveListener 7 0 0 [.ref 0, zi x, zi y] S J E (some (zi (zChg S n t 7 x y).1)) (zChg S n t 7 x y).2 J E := by
  refine nCR.of hl (by decide) rfl (Nat.le_of_ble_eq_true rfl) (ls := [some (.ref 0), some (zi x), some (zi y)]) rfl (fun X C hF hX => ?_)
  subst hX
  refine sw_aload_0 C dX5_moveListener_0 ?_
  refine sn_bipush C 7 (by decide) dX5_moveListener_1 ?_
  refine sw_iload_1 C dX5_moveListener_3 ?_
  refine sw_iload_2 C dX5_moveListener_4 ?_
  refine sn_cV3r C vX5_change lX5_61 rfl (by decide) rfl rfl dX5_moveListener_5 (Nat.le_of_ble_eq_true rfl) (c_X5_change hl hw hh (by decide) hx hy h0) (by decide) (by decide) (by decide) ?_
  exact sn_iret C rfl hF dX5_moveListener_8 (by decide) (by decide) (by rfl) rfl rfl rfl

set_option maxRecDepth 100000 in
set_option maxHeartbeats 4000000 in
theorem t1_X5_moveListener {l : Launch} (hl : l.stackTraces = false) {G : zG} {S : zS} {J : Int64} {E : UInt64} {n t : Nat} (hw : zNow S n t) {x y : Nat} (hx : x < 2 ^ 32) (hy : y < 2 ^ 32) (h0 : zRef S n t 7 x y = 1) : nCT l G mX5_moveListener 7 1 6 [.ref 0, zi x, zi y] S J E "java/lang/IndexOutOfBoundsException" S J E := by
  refine nCT.of hl (by decide) rfl (Nat.le_of_ble_eq_true rfl) (ls := [some (.ref 0), some (zi x), some (zi y)]) rfl (fun X C hF hX => ?_)
  subst hX
  refine sw_aload_0 C dX5_moveListener_0 ?_
  refine sn_bipush C 7 (by decide) dX5_moveListener_1 ?_
  refine sw_iload_1 C dX5_moveListener_3 ?_
  refine sw_iload_2 C dX5_moveListener_4 ?_
  exact sn_cV3T C vX5_change kX5_61 rfl (by decide) rfl rfl dX5_moveListener_5 (Nat.le_of_ble_eq_true rfl) (t1_X5_change hl hw (by decide) hx hy h0) (by decide) (by decide) (by decide) hF

set_option maxRecDepth 100000 in
set_option maxHeartbeats 4000000 in
theorem t2_X5_moveListener {l : Launch} (hl : l.stackTraces = false) {G : zG} {S : zS} {J : Int64} {E : UInt64} {n t : Nat} (hw : zNow S n t) {x y : Nat} (hx : x < 2 ^ 32) (hy : y < 2 ^ 32) (h0 : zRef S n t 7 x y = 2) : nCT l G mX5_moveListener 7 1 6 [.ref 0, zi x, zi y] S J E "java/lang/IllegalArgumentException" S J E := by
  refine nCT.of hl (by decide) rfl (Nat.le_of_ble_eq_true rfl) (ls := [some (.ref 0), some (zi x), some (zi y)]) rfl (fun X C hF hX => ?_)
  subst hX
  refine sw_aload_0 C dX5_moveListener_0 ?_
  refine sn_bipush C 7 (by decide) dX5_moveListener_1 ?_
  refine sw_iload_1 C dX5_moveListener_3 ?_
  refine sw_iload_2 C dX5_moveListener_4 ?_
  exact sn_cV3T C vX5_change kX5_61 rfl (by decide) rfl rfl dX5_moveListener_5 (Nat.le_of_ble_eq_true rfl) (t2_X5_change hl hw (by decide) hx hy h0) (by decide) (by decide) (by decide) hF

set_option maxRecDepth 100000 in
set_option maxHeartbeats 4000000 in
theorem t3_X5_moveListener {l : Launch} (hl : l.stackTraces = false) {G : zG} {S : zS} {J : Int64} {E : UInt64} {n t : Nat} (hw : zNow S n t) {x y : Nat} (hx : x < 2 ^ 32) (hy : y < 2 ^ 32) (h0 : zRef S n t 7 x y = 3) : nCT l G mX5_moveListener 7 1 6 [.ref 0, zi x, zi y] S J E "java/lang/IllegalStateException" S J E := by
  refine nCT.of hl (by decide) rfl (Nat.le_of_ble_eq_true rfl) (ls := [some (.ref 0), some (zi x), some (zi y)]) rfl (fun X C hF hX => ?_)
  subst hX
  refine sw_aload_0 C dX5_moveListener_0 ?_
  refine sn_bipush C 7 (by decide) dX5_moveListener_1 ?_
  refine sw_iload_1 C dX5_moveListener_3 ?_
  refine sw_iload_2 C dX5_moveListener_4 ?_
  exact sn_cV3T C vX5_change kX5_61 rfl (by decide) rfl rfl dX5_moveListener_5 (Nat.le_of_ble_eq_true rfl) (t3_X5_change hl hw (by decide) hx hy h0) (by decide) (by decide) (by decide) hF

set_option maxRecDepth 100000 in
set_option maxHeartbeats 4000000 in
theorem c_X5_startRumour {l : Launch} (hl : l.stackTraces = false) {G : zG} {S : zS} {J : Int64} {E : UInt64} {n t : Nat} (hw : zNow S n t) (hh : zHist S) {x y : Nat} (hx : x < 2 ^ 32) (hy : y < 2 ^ 32) (h0 : zRef S n t 3 x y = 0) : nCR l G mX5_startRumour 7 0 0 [.ref 0, zi x, zi y] S J E (some (zi (zChg S n t 3 x y).1)) (zChg S n t 3 x y).2 J E := by
  refine nCR.of hl (by decide) rfl (Nat.le_of_ble_eq_true rfl) (ls := [some (.ref 0), some (zi x), some (zi y)]) rfl (fun X C hF hX => ?_)
  subst hX
  refine sw_aload_0 C dX5_startRumour_0 ?_
  refine sn_iconst C 3 (by decide) dX5_startRumour_1 ?_
  refine sw_iload_1 C dX5_startRumour_2 ?_
  refine sw_iload_2 C dX5_startRumour_3 ?_
  refine sn_cV3r C vX5_change lX5_61 rfl (by decide) rfl rfl dX5_startRumour_4 (Nat.le_of_ble_eq_true rfl) (c_X5_change hl hw hh (by decide) hx hy h0) (by decide) (by decide) (by decide) ?_
  exact sn_iret C rfl hF dX5_startRumour_7 (by decide) (by decide) (by rfl) rfl rfl rfl

set_option maxRecDepth 100000 in
set_option maxHeartbeats 4000000 in
theorem t1_X5_startRumour {l : Launch} (hl : l.stackTraces = false) {G : zG} {S : zS} {J : Int64} {E : UInt64} {n t : Nat} (hw : zNow S n t) {x y : Nat} (hx : x < 2 ^ 32) (hy : y < 2 ^ 32) (h0 : zRef S n t 3 x y = 1) : nCT l G mX5_startRumour 7 1 6 [.ref 0, zi x, zi y] S J E "java/lang/IndexOutOfBoundsException" S J E := by
  refine nCT.of hl (by decide) rfl (Nat.le_of_ble_eq_true rfl) (ls := [some (.ref 0), some (zi x), some (zi y)]) rfl (fun X C hF hX => ?_)
  subst hX
  refine sw_aload_0 C dX5_startRumour_0 ?_
  refine sn_iconst C 3 (by decide) dX5_startRumour_1 ?_
  refine sw_iload_1 C dX5_startRumour_2 ?_
  refine sw_iload_2 C dX5_startRumour_3 ?_
  exact sn_cV3T C vX5_change kX5_61 rfl (by decide) rfl rfl dX5_startRumour_4 (Nat.le_of_ble_eq_true rfl) (t1_X5_change hl hw (by decide) hx hy h0) (by decide) (by decide) (by decide) hF

set_option maxRecDepth 100000 in
set_option maxHeartbeats 4000000 in
theorem t2_X5_startRumour {l : Launch} (hl : l.stackTraces = false) {G : zG} {S : zS} {J : Int64} {E : UInt64} {n t : Nat} (hw : zNow S n t) {x y : Nat} (hx : x < 2 ^ 32) (hy : y < 2 ^ 32) (h0 : zRef S n t 3 x y = 2) : nCT l G mX5_startRumour 7 1 6 [.ref 0, zi x, zi y] S J E "java/lang/IllegalArgumentException" S J E := by
  refine nCT.of hl (by decide) rfl (Nat.le_of_ble_eq_true rfl) (ls := [some (.ref 0), some (zi x), some (zi y)]) rfl (fun X C hF hX => ?_)
  subst hX
  refine sw_aload_0 C dX5_startRumour_0 ?_
  refine sn_iconst C 3 (by decide) dX5_startRumour_1 ?_
  refine sw_iload_1 C dX5_startRumour_2 ?_
  refine sw_iload_2 C dX5_startRumour_3 ?_
  exact sn_cV3T C vX5_change kX5_61 rfl (by decide) rfl rfl dX5_startRumour_4 (Nat.le_of_ble_eq_true rfl) (t2_X5_change hl hw (by decide) hx hy h0) (by decide) (by decide) (by decide) hF

set_option maxRecDepth 100000 in
set_option maxHeartbeats 4000000 in
theorem t3_X5_startRumour {l : Launch} (hl : l.stackTraces = false) {G : zG} {S : zS} {J : Int64} {E : UInt64} {n t : Nat} (hw : zNow S n t) {x y : Nat} (hx : x < 2 ^ 32) (hy : y < 2 ^ 32) (h0 : zRef S n t 3 x y = 3) : nCT l G mX5_startRumour 7 1 6 [.ref 0, zi x, zi y] S J E "java/lang/IllegalStateException" S J E := by
  refine nCT.of hl (by decide) rfl (Nat.le_of_ble_eq_true rfl) (ls := [some (.ref 0), some (zi x), some (zi y)]) rfl (fun X C hF hX => ?_)
  subst hX
  refine sw_aload_0 C dX5_startRumour_0 ?_
  refine sn_iconst C 3 (by decide) dX5_startRumour_1 ?_
  refine sw_iload_1 C dX5_startRumour_2 ?_
  refine sw_iload_2 C dX5_startRumour_3 ?_
  exact sn_cV3T C vX5_change kX5_61 rfl (by decide) rfl rfl dX5_startRumour_4 (Nat.le_of_ble_eq_true rfl) (t3_X5_change hl hw (by decide) hx hy h0) (by decide) (by decide) (by decide) hF

set_option maxRecDepth 100000 in
set_option maxHeartbeats 4000000 in
theorem c_X5_deny {l : Launch} (hl : l.stackTraces = false) {G : zG} {S : zS} {J : Int64} {E : UInt64} {n t : Nat} (hw : zNow S n t) (hh : zHist S) {x : Nat} (hx : x < 2 ^ 32) (h0 : zRef S n t 5 x 0 = 0) : nCR l G mX5_deny 7 0 0 [.ref 0, zi x] S J E (some (zi (zChg S n t 5 x 0).1)) (zChg S n t 5 x 0).2 J E := by
  refine nCR.of hl (by decide) rfl (Nat.le_of_ble_eq_true rfl) (ls := [some (.ref 0), some (zi x)]) rfl (fun X C hF hX => ?_)
  subst hX
  refine sw_aload_0 C dX5_deny_0 ?_
  refine sn_iconst C 5 (by decide) dX5_deny_1 ?_
  refine sw_iload_1 C dX5_deny_2 ?_
  refine sn_iconst C 0 (by decide) dX5_deny_3 ?_
  refine sn_cV3r C vX5_change lX5_61 rfl (by decide) rfl rfl dX5_deny_4 (Nat.le_of_ble_eq_true rfl) (c_X5_change hl hw hh (by decide) hx (by decide) h0) (by decide) (by decide) (by decide) ?_
  exact sn_iret C rfl hF dX5_deny_7 (by decide) (by decide) (by rfl) rfl rfl rfl

set_option maxRecDepth 100000 in
set_option maxHeartbeats 4000000 in
theorem t1_X5_deny {l : Launch} (hl : l.stackTraces = false) {G : zG} {S : zS} {J : Int64} {E : UInt64} {n t : Nat} (hw : zNow S n t) {x : Nat} (hx : x < 2 ^ 32) (h0 : zRef S n t 5 x 0 = 1) : nCT l G mX5_deny 7 1 6 [.ref 0, zi x] S J E "java/lang/IndexOutOfBoundsException" S J E := by
  refine nCT.of hl (by decide) rfl (Nat.le_of_ble_eq_true rfl) (ls := [some (.ref 0), some (zi x)]) rfl (fun X C hF hX => ?_)
  subst hX
  refine sw_aload_0 C dX5_deny_0 ?_
  refine sn_iconst C 5 (by decide) dX5_deny_1 ?_
  refine sw_iload_1 C dX5_deny_2 ?_
  refine sn_iconst C 0 (by decide) dX5_deny_3 ?_
  exact sn_cV3T C vX5_change kX5_61 rfl (by decide) rfl rfl dX5_deny_4 (Nat.le_of_ble_eq_true rfl) (t1_X5_change hl hw (by decide) hx (by decide) h0) (by decide) (by decide) (by decide) hF

set_option maxRecDepth 100000 in
set_option maxHeartbeats 4000000 in
theorem t3_X5_deny {l : Launch} (hl : l.stackTraces = false) {G : zG} {S : zS} {J : Int64} {E : UInt64} {n t : Nat} (hw : zNow S n t) {x : Nat} (hx : x < 2 ^ 32) (h0 : zRef S n t 5 x 0 = 3) : nCT l G mX5_deny 7 1 6 [.ref 0, zi x] S J E "java/lang/IllegalStateException" S J E := by
  refine nCT.of hl (by decide) rfl (Nat.le_of_ble_eq_true rfl) (ls := [some (.ref 0), some (zi x)]) rfl (fun X C hF hX => ?_)
  subst hX
  refine sw_aload_0 C dX5_deny_0 ?_
  refine sn_iconst C 5 (by decide) dX5_deny_1 ?_
  refine sw_iload_1 C dX5_deny_2 ?_
  refine sn_iconst C 0 (by decide) dX5_deny_3 ?_
  exact sn_cV3T C vX5_change kX5_61 rfl (by decide) rfl rfl dX5_deny_4 (Nat.le_of_ble_eq_true rfl) (t3_X5_change hl hw (by decide) hx (by decide) h0) (by decide) (by decide) (by decide) hF

set_option maxRecDepth 100000 in
set_option maxHeartbeats 4000000 in
theorem c_X5_answer {l : Launch} (hl : l.stackTraces = false) {G : zG} {S : zS} {J : Int64} {E : UInt64} {n t : Nat} (hw : zNow S n t) (hh : zHist S) {x y : Nat} (hx : x < 2 ^ 32) (hy : y < 2 ^ 32) (h0 : zRef S n t 6 x y = 0) : nCR l G mX5_answer 7 0 0 [.ref 0, zi x, zi y] S J E (some (zi (zChg S n t 6 x y).1)) (zChg S n t 6 x y).2 J E := by
  refine nCR.of hl (by decide) rfl (Nat.le_of_ble_eq_true rfl) (ls := [some (.ref 0), some (zi x), some (zi y)]) rfl (fun X C hF hX => ?_)
  subst hX
  refine sw_aload_0 C dX5_answer_0 ?_
  refine sn_bipush C 6 (by decide) dX5_answer_1 ?_
  refine sw_iload_1 C dX5_answer_3 ?_
  refine sw_iload_2 C dX5_answer_4 ?_
  refine sn_cV3r C vX5_change lX5_61 rfl (by decide) rfl rfl dX5_answer_5 (Nat.le_of_ble_eq_true rfl) (c_X5_change hl hw hh (by decide) hx hy h0) (by decide) (by decide) (by decide) ?_
  exact sn_iret C rfl hF dX5_answer_8 (by decide) (by decide) (by rfl) rfl rfl rfl

set_option maxRecDepth 100000 in
set_option maxHeartbeats 4000000 in
theorem t1_X5_answer {l : Launch} (hl : l.stackTraces = false) {G : zG} {S : zS} {J : Int64} {E : UInt64} {n t : Nat} (hw : zNow S n t) {x y : Nat} (hx : x < 2 ^ 32) (hy : y < 2 ^ 32) (h0 : zRef S n t 6 x y = 1) : nCT l G mX5_answer 7 1 6 [.ref 0, zi x, zi y] S J E "java/lang/IndexOutOfBoundsException" S J E := by
  refine nCT.of hl (by decide) rfl (Nat.le_of_ble_eq_true rfl) (ls := [some (.ref 0), some (zi x), some (zi y)]) rfl (fun X C hF hX => ?_)
  subst hX
  refine sw_aload_0 C dX5_answer_0 ?_
  refine sn_bipush C 6 (by decide) dX5_answer_1 ?_
  refine sw_iload_1 C dX5_answer_3 ?_
  refine sw_iload_2 C dX5_answer_4 ?_
  exact sn_cV3T C vX5_change kX5_61 rfl (by decide) rfl rfl dX5_answer_5 (Nat.le_of_ble_eq_true rfl) (t1_X5_change hl hw (by decide) hx hy h0) (by decide) (by decide) (by decide) hF

set_option maxRecDepth 100000 in
set_option maxHeartbeats 4000000 in
theorem t2_X5_answer {l : Launch} (hl : l.stackTraces = false) {G : zG} {S : zS} {J : Int64} {E : UInt64} {n t : Nat} (hw : zNow S n t) {x y : Nat} (hx : x < 2 ^ 32) (hy : y < 2 ^ 32) (h0 : zRef S n t 6 x y = 2) : nCT l G mX5_answer 7 1 6 [.ref 0, zi x, zi y] S J E "java/lang/IllegalArgumentException" S J E := by
  refine nCT.of hl (by decide) rfl (Nat.le_of_ble_eq_true rfl) (ls := [some (.ref 0), some (zi x), some (zi y)]) rfl (fun X C hF hX => ?_)
  subst hX
  refine sw_aload_0 C dX5_answer_0 ?_
  refine sn_bipush C 6 (by decide) dX5_answer_1 ?_
  refine sw_iload_1 C dX5_answer_3 ?_
  refine sw_iload_2 C dX5_answer_4 ?_
  exact sn_cV3T C vX5_change kX5_61 rfl (by decide) rfl rfl dX5_answer_5 (Nat.le_of_ble_eq_true rfl) (t2_X5_change hl hw (by decide) hx hy h0) (by decide) (by decide) (by decide) hF

set_option maxRecDepth 100000 in
set_option maxHeartbeats 4000000 in
theorem t3_X5_answer {l : Launch} (hl : l.stackTraces = false) {G : zG} {S : zS} {J : Int64} {E : UInt64} {n t : Nat} (hw : zNow S n t) {x y : Nat} (hx : x < 2 ^ 32) (hy : y < 2 ^ 32) (h0 : zRef S n t 6 x y = 3) : nCT l G mX5_answer 7 1 6 [.ref 0, zi x, zi y] S J E "java/lang/IllegalStateException" S J E := by
  refine nCT.of hl (by decide) rfl (Nat.le_of_ble_eq_true rfl) (ls := [some (.ref 0), some (zi x), some (zi y)]) rfl (fun X C hF hX => ?_)
  subst hX
  refine sw_aload_0 C dX5_answer_0 ?_
  refine sn_bipush C 6 (by decide) dX5_answer_1 ?_
  refine sw_iload_1 C dX5_answer_3 ?_
  refine sw_iload_2 C dX5_answer_4 ?_
  exact sn_cV3T C vX5_change kX5_61 rfl (by decide) rfl rfl dX5_answer_5 (Nat.le_of_ble_eq_true rfl) (t3_X5_change hl hw (by decide) hx hy h0) (by decide) (by decide) (by decide) hF

set_option maxRecDepth 100000 in
set_option maxHeartbeats 4000000 in
theorem c_X5_advance {l : Launch} (hl : l.stackTraces = false) {G : zG} {S : zS} {J : Int64} {E : UInt64} {n t : Nat} (hw : zNow S n t) (hh : zHist S) {x : Nat} (hx : x < 2 ^ 32) (h0 : zRef S n t 9 x 0 = 0) : nCR l G mX5_advance 7 0 0 [.ref 0, zi x] S J E (some (zi (zChg S n t 9 x 0).1)) (zChg S n t 9 x 0).2 J E := by
  refine nCR.of hl (by decide) rfl (Nat.le_of_ble_eq_true rfl) (ls := [some (.ref 0), some (zi x)]) rfl (fun X C hF hX => ?_)
  subst hX
  refine sw_aload_0 C dX5_advance_0 ?_
  refine sn_bipush C 9 (by decide) dX5_advance_1 ?_
  refine sw_iload_1 C dX5_advance_3 ?_
  refine sn_iconst C 0 (by decide) dX5_advance_4 ?_
  refine sn_cV3r C vX5_change lX5_61 rfl (by decide) rfl rfl dX5_advance_5 (Nat.le_of_ble_eq_true rfl) (c_X5_change hl hw hh (by decide) hx (by decide) h0) (by decide) (by decide) (by decide) ?_
  exact sn_iret C rfl hF dX5_advance_8 (by decide) (by decide) (by rfl) rfl rfl rfl

set_option maxRecDepth 100000 in
set_option maxHeartbeats 4000000 in
theorem t2_X5_advance {l : Launch} (hl : l.stackTraces = false) {G : zG} {S : zS} {J : Int64} {E : UInt64} {n t : Nat} (hw : zNow S n t) {x : Nat} (hx : x < 2 ^ 32) (h0 : zRef S n t 9 x 0 = 2) : nCT l G mX5_advance 7 1 6 [.ref 0, zi x] S J E "java/lang/IllegalArgumentException" S J E := by
  refine nCT.of hl (by decide) rfl (Nat.le_of_ble_eq_true rfl) (ls := [some (.ref 0), some (zi x)]) rfl (fun X C hF hX => ?_)
  subst hX
  refine sw_aload_0 C dX5_advance_0 ?_
  refine sn_bipush C 9 (by decide) dX5_advance_1 ?_
  refine sw_iload_1 C dX5_advance_3 ?_
  refine sn_iconst C 0 (by decide) dX5_advance_4 ?_
  exact sn_cV3T C vX5_change kX5_61 rfl (by decide) rfl rfl dX5_advance_5 (Nat.le_of_ble_eq_true rfl) (t2_X5_change hl hw (by decide) hx (by decide) h0) (by decide) (by decide) (by decide) hF

theorem zConv_le {S : zS} {x y : Nat} : (zConvert S x y).1 ≤ 1 := by
  unfold zConvert; split
  · exact Nat.zero_le _
  · exact Nat.le_refl _

set_option maxRecDepth 100000 in
set_option maxHeartbeats 4000000 in
theorem c_X5_check {l : Launch} (hl : l.stackTraces = false) {G : zG} {S : zS} {J : Int64} {E : UInt64} {n t : Nat} (hw : zNow S n t) (hh : zHist S) {x y : Nat} (hx : x < 2 ^ 32) (hy : y < 2 ^ 32) (h0 : zRef S n t 4 x y = 0) : nCR l G mX5_check 7 0 0 [.ref 0, zi x, zi y] S J E (some (zi (decide ((zChg S n t 4 x y).1 = 1)).toNat)) (zChg S n t 4 x y).2 J E := by
  refine nCR.of hl (by decide) rfl (Nat.le_of_ble_eq_true rfl) (ls := [some (.ref 0), some (zi x), some (zi y)]) rfl (fun X C hF hX => ?_)
  subst hX
  refine sw_aload_0 C dX5_check_0 ?_
  refine sn_iconst C 4 (by decide) dX5_check_1 ?_
  refine sw_iload_1 C dX5_check_2 ?_
  refine sw_iload_2 C dX5_check_3 ?_
  refine sn_cV3r C vX5_change lX5_61 rfl (by decide) rfl rfl dX5_check_4 (Nat.le_of_ble_eq_true rfl) (c_X5_change hl hw hh (by decide) hx hy h0) (by decide) (by decide) (by decide) ?_
  refine sn_iconst C 1 (by decide) dX5_check_7 ?_
  refine sn_icmp_ne C 15 (by have : (zChg S n t 4 x y).1 ≤ 1 := zConv_le; omega) (by decide) dX5_check_8 (by decide) (fun c8 => ?_) (fun c8 => ?_)
  · refine sn_iconst C 0 (by decide) dX5_check_15 ?_
    exact sn_zret C (v := false) rfl hF dX5_check_16 (by decide) (by decide) (by simp [c8]) rfl rfl rfl
  · refine sn_iconst C 1 (by decide) dX5_check_11 ?_
    refine sw_goto C 16 dX5_check_12 (by decide) ?_
    exact sn_zret C (v := true) rfl hF dX5_check_16 (by decide) (by decide) (by simp [c8]) rfl rfl rfl

set_option maxRecDepth 100000 in
set_option maxHeartbeats 4000000 in
theorem t1_X5_check {l : Launch} (hl : l.stackTraces = false) {G : zG} {S : zS} {J : Int64} {E : UInt64} {n t : Nat} (hw : zNow S n t) {x y : Nat} (hx : x < 2 ^ 32) (hy : y < 2 ^ 32) (h0 : zRef S n t 4 x y = 1) : nCT l G mX5_check 7 1 6 [.ref 0, zi x, zi y] S J E "java/lang/IndexOutOfBoundsException" S J E := by
  refine nCT.of hl (by decide) rfl (Nat.le_of_ble_eq_true rfl) (ls := [some (.ref 0), some (zi x), some (zi y)]) rfl (fun X C hF hX => ?_)
  subst hX
  refine sw_aload_0 C dX5_check_0 ?_
  refine sn_iconst C 4 (by decide) dX5_check_1 ?_
  refine sw_iload_1 C dX5_check_2 ?_
  refine sw_iload_2 C dX5_check_3 ?_
  exact sn_cV3T C vX5_change kX5_61 rfl (by decide) rfl rfl dX5_check_4 (Nat.le_of_ble_eq_true rfl) (t1_X5_change hl hw (by decide) hx hy h0) (by decide) (by decide) (by decide) hF

set_option maxRecDepth 100000 in
set_option maxHeartbeats 4000000 in
theorem t3_X5_check {l : Launch} (hl : l.stackTraces = false) {G : zG} {S : zS} {J : Int64} {E : UInt64} {n t : Nat} (hw : zNow S n t) {x y : Nat} (hx : x < 2 ^ 32) (hy : y < 2 ^ 32) (h0 : zRef S n t 4 x y = 3) : nCT l G mX5_check 7 1 6 [.ref 0, zi x, zi y] S J E "java/lang/IllegalStateException" S J E := by
  refine nCT.of hl (by decide) rfl (Nat.le_of_ble_eq_true rfl) (ls := [some (.ref 0), some (zi x), some (zi y)]) rfl (fun X C hF hX => ?_)
  subst hX
  refine sw_aload_0 C dX5_check_0 ?_
  refine sn_iconst C 4 (by decide) dX5_check_1 ?_
  refine sw_iload_1 C dX5_check_2 ?_
  refine sw_iload_2 C dX5_check_3 ?_
  exact sn_cV3T C vX5_change kX5_61 rfl (by decide) rfl rfl dX5_check_4 (Nat.le_of_ble_eq_true rfl) (t3_X5_change hl hw (by decide) hx hy h0) (by decide) (by decide) (by decide) hF
