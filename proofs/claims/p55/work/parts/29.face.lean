set_option maxRecDepth 100000 in
set_option maxHeartbeats 4000000 in
theorem c_X5_hive {l : Launch} (hl : l.stackTraces = false) {G : zG} {S : zS} {J : Int64} {E : UInt64} {n t : Nat} (hw : zNow S n t) {x : Nat} (hx : x < 2 ^ 32) (hxl : x < n) : nCR l G mX5_hive 6 0 0 [.ref 0, zi x] S J E (some (zi (S 30 x))) S J E := by
  refine nCR.of hl (by decide) rfl (Nat.le_of_ble_eq_true rfl) (ls := [some (.ref 0), some (zi x)]) rfl (fun X C hF hX => ?_)
  subst hX
  obtain ⟨hn, hz, ht, ht4, hnb, hhv, hdb, hru⟩ := id hw
  refine sw_aload_0 C dX5_hive_0 ?_
  refine sw_iload_1 C dX5_hive_1 ?_
  refine sn_cV1v C vX5_needListener lX5_74 rfl (by decide) rfl rfl dX5_hive_2 (Nat.le_of_ble_eq_true rfl) (c_X5_needListener hl hn hz hx hxl) (by decide) (by decide) (by decide) ?_
  refine sw_aload_0 C dX5_hive_5 ?_
  refine sw_getR C (o' := 25) fX5_10 rfl (by decide) rfl rfl (by decide) dX5_hive_6 ?_
  refine sw_getR C (o' := 30) fX5_78 rfl (by decide) rfl rfl (by decide) dX5_hive_9 ?_
  refine sw_iload_1 C dX5_hive_12 ?_
  refine sn_iald C rfl (by decide) (by omega) (by decide) dX5_hive_13 ?_
  exact sn_iret C rfl hF dX5_hive_14 (by decide) (by decide) (by first | rfl | (simp [*]; done)) rfl rfl rfl

set_option maxRecDepth 100000 in
set_option maxHeartbeats 4000000 in
theorem t1_X5_hive {l : Launch} (hl : l.stackTraces = false) {G : zG} {S : zS} {J : Int64} {E : UInt64} {n t : Nat} (hw : zNow S n t) {x : Nat} (hx : x < 2 ^ 32) (hxl : ¬ x < n) : nCT l G mX5_hive 6 1 6 [.ref 0, zi x] S J E "java/lang/IndexOutOfBoundsException" S J E := by
  refine nCT.of hl (by decide) rfl (Nat.le_of_ble_eq_true rfl) (ls := [some (.ref 0), some (zi x)]) rfl (fun X C hF hX => ?_)
  subst hX
  obtain ⟨hn, hz, ht, ht4, hnb, hhv, hdb, hru⟩ := id hw
  refine sw_aload_0 C dX5_hive_0 ?_
  refine sw_iload_1 C dX5_hive_1 ?_
  exact sn_cV1T C vX5_needListener kX5_74 rfl (by decide) rfl rfl dX5_hive_2 (Nat.le_of_ble_eq_true rfl) (t_X5_needListener hl hn hz hx hxl) (by decide) (by decide) (by decide) hF

set_option maxRecDepth 100000 in
set_option maxHeartbeats 4000000 in
theorem c_X5_doubt {l : Launch} (hl : l.stackTraces = false) {G : zG} {S : zS} {J : Int64} {E : UInt64} {n t : Nat} (hw : zNow S n t) {x : Nat} (hx : x < 2 ^ 32) (hxl : x < n) : nCR l G mX5_doubt 6 0 0 [.ref 0, zi x] S J E (some (zi (S 31 x))) S J E := by
  refine nCR.of hl (by decide) rfl (Nat.le_of_ble_eq_true rfl) (ls := [some (.ref 0), some (zi x)]) rfl (fun X C hF hX => ?_)
  subst hX
  obtain ⟨hn, hz, ht, ht4, hnb, hhv, hdb, hru⟩ := id hw
  refine sw_aload_0 C dX5_doubt_0 ?_
  refine sw_iload_1 C dX5_doubt_1 ?_
  refine sn_cV1v C vX5_needListener lX5_74 rfl (by decide) rfl rfl dX5_doubt_2 (Nat.le_of_ble_eq_true rfl) (c_X5_needListener hl hn hz hx hxl) (by decide) (by decide) (by decide) ?_
  refine sw_aload_0 C dX5_doubt_5 ?_
  refine sw_getR C (o' := 25) fX5_10 rfl (by decide) rfl rfl (by decide) dX5_doubt_6 ?_
  refine sw_getR C (o' := 31) fX5_82 rfl (by decide) rfl rfl (by decide) dX5_doubt_9 ?_
  refine sw_iload_1 C dX5_doubt_12 ?_
  refine sn_iald C rfl (by decide) (by omega) (by decide) dX5_doubt_13 ?_
  exact sn_iret C rfl hF dX5_doubt_14 (by decide) (by decide) (by first | rfl | (simp [*]; done)) rfl rfl rfl

set_option maxRecDepth 100000 in
set_option maxHeartbeats 4000000 in
theorem t1_X5_doubt {l : Launch} (hl : l.stackTraces = false) {G : zG} {S : zS} {J : Int64} {E : UInt64} {n t : Nat} (hw : zNow S n t) {x : Nat} (hx : x < 2 ^ 32) (hxl : ¬ x < n) : nCT l G mX5_doubt 6 1 6 [.ref 0, zi x] S J E "java/lang/IndexOutOfBoundsException" S J E := by
  refine nCT.of hl (by decide) rfl (Nat.le_of_ble_eq_true rfl) (ls := [some (.ref 0), some (zi x)]) rfl (fun X C hF hX => ?_)
  subst hX
  obtain ⟨hn, hz, ht, ht4, hnb, hhv, hdb, hru⟩ := id hw
  refine sw_aload_0 C dX5_doubt_0 ?_
  refine sw_iload_1 C dX5_doubt_1 ?_
  exact sn_cV1T C vX5_needListener kX5_74 rfl (by decide) rfl rfl dX5_doubt_2 (Nat.le_of_ble_eq_true rfl) (t_X5_needListener hl hn hz hx hxl) (by decide) (by decide) (by decide) hF

set_option maxRecDepth 100000 in
set_option maxHeartbeats 4000000 in
theorem c_X5_isLinked {l : Launch} (hl : l.stackTraces = false) {G : zG} {S : zS} {J : Int64} {E : UInt64} {n t : Nat} (hw : zNow S n t) {x : Nat} (hx : x < 2 ^ 32) (hxl : x < n) {y : Nat} (hy : y < 2 ^ 32) (hyl : y < n) : nCR l G mX5_isLinked 6 0 0 [.ref 0, zi x, zi y] S J E (some (zi ((S 27 x).testBit y).toNat)) S J E := by
  refine nCR.of hl (by decide) rfl (Nat.le_of_ble_eq_true rfl) (ls := [some (.ref 0), some (zi x), some (zi y)]) rfl (fun X C hF hX => ?_)
  subst hX
  obtain ⟨hn, hz, ht, ht4, hnb, hhv, hdb, hru⟩ := id hw
  refine sw_aload_0 C dX5_isLinked_0 ?_
  refine sw_iload_1 C dX5_isLinked_1 ?_
  refine sn_cV1v C vX5_needListener lX5_74 rfl (by decide) rfl rfl dX5_isLinked_2 (Nat.le_of_ble_eq_true rfl) (c_X5_needListener hl hn hz hx hxl) (by decide) (by decide) (by decide) ?_
  refine sw_aload_0 C dX5_isLinked_5 ?_
  refine sw_iload_2 C dX5_isLinked_6 ?_
  refine sn_cV1v C vX5_needListener lX5_74 rfl (by decide) rfl rfl dX5_isLinked_7 (Nat.le_of_ble_eq_true rfl) (c_X5_needListener hl hn hz hy hyl) (by decide) (by decide) (by decide) ?_
  refine sw_aload_0 C dX5_isLinked_10 ?_
  refine sw_getR C (o' := 25) fX5_10 rfl (by decide) rfl rfl (by decide) dX5_isLinked_11 ?_
  refine sw_getR C (o' := 26) fX5_65 rfl (by decide) rfl rfl (by decide) dX5_isLinked_14 ?_
  refine sw_iload_1 C dX5_isLinked_17 ?_
  refine sw_iload_2 C dX5_isLinked_18 ?_
  refine sn_cV2r C vX1_joined lX5_85 rfl (by decide) rfl rfl dX5_isLinked_19 (Nat.le_of_ble_eq_true rfl) (c_X1_joined hl (by omega) (by omega)) (by decide) (by decide) (by decide) ?_
  exact sn_zret C rfl hF dX5_isLinked_22 (by decide) (by decide) (by first | rfl | (simp [*]; done)) rfl rfl rfl

set_option maxRecDepth 100000 in
set_option maxHeartbeats 4000000 in
theorem t1_X5_isLinked {l : Launch} (hl : l.stackTraces = false) {G : zG} {S : zS} {J : Int64} {E : UInt64} {n t : Nat} (hw : zNow S n t) {x : Nat} (hx : x < 2 ^ 32) (hxl : ¬ x < n) {y : Nat} (hy : y < 2 ^ 32) : nCT l G mX5_isLinked 6 1 6 [.ref 0, zi x, zi y] S J E "java/lang/IndexOutOfBoundsException" S J E := by
  refine nCT.of hl (by decide) rfl (Nat.le_of_ble_eq_true rfl) (ls := [some (.ref 0), some (zi x), some (zi y)]) rfl (fun X C hF hX => ?_)
  subst hX
  obtain ⟨hn, hz, ht, ht4, hnb, hhv, hdb, hru⟩ := id hw
  refine sw_aload_0 C dX5_isLinked_0 ?_
  refine sw_iload_1 C dX5_isLinked_1 ?_
  exact sn_cV1T C vX5_needListener kX5_74 rfl (by decide) rfl rfl dX5_isLinked_2 (Nat.le_of_ble_eq_true rfl) (t_X5_needListener hl hn hz hx hxl) (by decide) (by decide) (by decide) hF

set_option maxRecDepth 100000 in
set_option maxHeartbeats 4000000 in
theorem t2_X5_isLinked {l : Launch} (hl : l.stackTraces = false) {G : zG} {S : zS} {J : Int64} {E : UInt64} {n t : Nat} (hw : zNow S n t) {x : Nat} (hx : x < 2 ^ 32) (hxl : x < n) {y : Nat} (hy : y < 2 ^ 32) (hyl : ¬ y < n) : nCT l G mX5_isLinked 6 1 6 [.ref 0, zi x, zi y] S J E "java/lang/IndexOutOfBoundsException" S J E := by
  refine nCT.of hl (by decide) rfl (Nat.le_of_ble_eq_true rfl) (ls := [some (.ref 0), some (zi x), some (zi y)]) rfl (fun X C hF hX => ?_)
  subst hX
  obtain ⟨hn, hz, ht, ht4, hnb, hhv, hdb, hru⟩ := id hw
  refine sw_aload_0 C dX5_isLinked_0 ?_
  refine sw_iload_1 C dX5_isLinked_1 ?_
  refine sn_cV1v C vX5_needListener lX5_74 rfl (by decide) rfl rfl dX5_isLinked_2 (Nat.le_of_ble_eq_true rfl) (c_X5_needListener hl hn hz hx hxl) (by decide) (by decide) (by decide) ?_
  refine sw_aload_0 C dX5_isLinked_5 ?_
  refine sw_iload_2 C dX5_isLinked_6 ?_
  exact sn_cV1T C vX5_needListener kX5_74 rfl (by decide) rfl rfl dX5_isLinked_7 (Nat.le_of_ble_eq_true rfl) (t_X5_needListener hl hn hz hy hyl) (by decide) (by decide) (by decide) hF

set_option maxRecDepth 100000 in
set_option maxHeartbeats 4000000 in
theorem c_X5_neighbourCount {l : Launch} (hl : l.stackTraces = false) {G : zG} {S : zS} {J : Int64} {E : UInt64} {n t : Nat} (hw : zNow S n t) {x : Nat} (hx : x < 2 ^ 32) (hxl : x < n) : nCR l G mX5_neighbourCount 6 0 0 [.ref 0, zi x] S J E (some (zi (zpop (S 27 x)))) S J E := by
  refine nCR.of hl (by decide) rfl (Nat.le_of_ble_eq_true rfl) (ls := [some (.ref 0), some (zi x)]) rfl (fun X C hF hX => ?_)
  subst hX
  obtain ⟨hn, hz, ht, ht4, hnb, hhv, hdb, hru⟩ := id hw
  refine sw_aload_0 C dX5_neighbourCount_0 ?_
  refine sw_iload_1 C dX5_neighbourCount_1 ?_
  refine sn_cV1v C vX5_needListener lX5_74 rfl (by decide) rfl rfl dX5_neighbourCount_2 (Nat.le_of_ble_eq_true rfl) (c_X5_needListener hl hn hz hx hxl) (by decide) (by decide) (by decide) ?_
  refine sw_aload_0 C dX5_neighbourCount_5 ?_
  refine sw_getR C (o' := 25) fX5_10 rfl (by decide) rfl rfl (by decide) dX5_neighbourCount_6 ?_
  refine sw_getR C (o' := 26) fX5_65 rfl (by decide) rfl rfl (by decide) dX5_neighbourCount_9 ?_
  refine sw_getR C (o' := 27) fX5_89 rfl (by decide) rfl rfl (by decide) dX5_neighbourCount_12 ?_
  refine sw_iload_1 C dX5_neighbourCount_15 ?_
  refine sn_iald C rfl (by decide) (by omega) (by decide) dX5_neighbourCount_16 ?_
  refine sn_cS1r C vJ6_bitCount_0f7a4 lX5_92 dX5_neighbourCount_17 (Nat.le_of_ble_eq_true rfl) (c_J6_bitCount_0f7a4 hl (hnb x (by omega))) (by decide) (by decide) (by decide) ?_
  exact sn_iret C rfl hF dX5_neighbourCount_20 (by decide) (by decide) (by first | rfl | (simp [*]; done)) rfl rfl rfl

set_option maxRecDepth 100000 in
set_option maxHeartbeats 4000000 in
theorem t1_X5_neighbourCount {l : Launch} (hl : l.stackTraces = false) {G : zG} {S : zS} {J : Int64} {E : UInt64} {n t : Nat} (hw : zNow S n t) {x : Nat} (hx : x < 2 ^ 32) (hxl : ¬ x < n) : nCT l G mX5_neighbourCount 6 1 6 [.ref 0, zi x] S J E "java/lang/IndexOutOfBoundsException" S J E := by
  refine nCT.of hl (by decide) rfl (Nat.le_of_ble_eq_true rfl) (ls := [some (.ref 0), some (zi x)]) rfl (fun X C hF hX => ?_)
  subst hX
  obtain ⟨hn, hz, ht, ht4, hnb, hhv, hdb, hru⟩ := id hw
  refine sw_aload_0 C dX5_neighbourCount_0 ?_
  refine sw_iload_1 C dX5_neighbourCount_1 ?_
  exact sn_cV1T C vX5_needListener kX5_74 rfl (by decide) rfl rfl dX5_neighbourCount_2 (Nat.le_of_ble_eq_true rfl) (t_X5_needListener hl hn hz hx hxl) (by decide) (by decide) (by decide) hF

set_option maxRecDepth 100000 in
set_option maxHeartbeats 4000000 in
theorem c_X5_hiveSize {l : Launch} (hl : l.stackTraces = false) {G : zG} {S : zS} {J : Int64} {E : UInt64} {n t : Nat} (hw : zNow S n t) {x : Nat} (hx : x < 2 ^ 32) (h4 : x < 4) : nCR l G mX5_hiveSize 6 0 0 [.ref 0, zi x] S J E (some (zi (zpop (zMem S n x)))) S J E := by
  refine nCR.of hl (by decide) rfl (Nat.le_of_ble_eq_true rfl) (ls := [some (.ref 0), some (zi x)]) rfl (fun X C hF hX => ?_)
  subst hX
  obtain ⟨hn, hz, ht, ht4, hnb, hhv, hdb, hru⟩ := id hw
  refine sw_iload_1 C dX5_hiveSize_0 ?_
  refine sn_cS1v C vX5_needHive lX5_101 dX5_hiveSize_1 (Nat.le_of_ble_eq_true rfl) (c_X5_needHive hl hx h4) (by decide) (by decide) (by decide) ?_
  refine sw_aload_0 C dX5_hiveSize_4 ?_
  refine sw_getR C (o' := 25) fX5_10 rfl (by decide) rfl rfl (by decide) dX5_hiveSize_5 ?_
  refine sw_iload_1 C dX5_hiveSize_8 ?_
  refine sn_cV1r C vX3_membersOf lX5_104 rfl (by decide) rfl rfl dX5_hiveSize_9 (Nat.le_of_ble_eq_true rfl) (c_X3_membersOf hl hn hz hhv (by omega)) (by decide) (by decide) (by decide) ?_
  refine sn_cS1r C vJ6_bitCount_0f7a4 lX5_92 dX5_hiveSize_12 (Nat.le_of_ble_eq_true rfl) (c_J6_bitCount_0f7a4 hl (zmask_lt hz _)) (by decide) (by decide) (by decide) ?_
  exact sn_iret C rfl hF dX5_hiveSize_15 (by decide) (by decide) (by first | rfl | (simp [*]; done)) rfl rfl rfl

set_option maxRecDepth 100000 in
set_option maxHeartbeats 4000000 in
theorem t1_X5_hiveSize {l : Launch} (hl : l.stackTraces = false) {G : zG} {S : zS} {J : Int64} {E : UInt64} {n t : Nat} (hw : zNow S n t) {x : Nat} (hx : x < 2 ^ 32) (h4 : ¬ x < 4) : nCT l G mX5_hiveSize 6 1 6 [.ref 0, zi x] S J E "java/lang/IndexOutOfBoundsException" S J E := by
  refine nCT.of hl (by decide) rfl (Nat.le_of_ble_eq_true rfl) (ls := [some (.ref 0), some (zi x)]) rfl (fun X C hF hX => ?_)
  subst hX
  obtain ⟨hn, hz, ht, ht4, hnb, hhv, hdb, hru⟩ := id hw
  refine sw_iload_1 C dX5_hiveSize_0 ?_
  exact sn_cS1T C vX5_needHive kX5_101 dX5_hiveSize_1 (Nat.le_of_ble_eq_true rfl) (t_X5_needHive hl hx h4) (by decide) (by decide) (by decide) hF

set_option maxRecDepth 100000 in
set_option maxHeartbeats 4000000 in
theorem c_X5_listenerCount {l : Launch} (hl : l.stackTraces = false) {G : zG} {S : zS} {J : Int64} {E : UInt64} {n t : Nat} (hw : zNow S n t)  : nCR l G mX5_listenerCount 6 0 0 [.ref 0] S J E (some (zi n)) S J E := by
  refine nCR.of hl (by decide) rfl (Nat.le_of_ble_eq_true rfl) (ls := [some (.ref 0)]) rfl (fun X C hF hX => ?_)
  subst hX
  obtain ⟨hn, hz, ht, ht4, hnb, hhv, hdb, hru⟩ := id hw
  refine sw_aload_0 C dX5_listenerCount_0 ?_
  refine sw_getR C (o' := 25) fX5_10 rfl (by decide) rfl rfl (by decide) dX5_listenerCount_1 ?_
  refine sw_getR C (o' := 26) fX5_65 rfl (by decide) rfl rfl (by decide) dX5_listenerCount_4 ?_
  refine sn_getI C fX5_69 rfl (by decide) rfl dX5_listenerCount_7 ?_
  exact sn_iret C rfl hF dX5_listenerCount_10 (by decide) (by decide) (by exact hn) rfl rfl rfl

set_option maxRecDepth 100000 in
set_option maxHeartbeats 4000000 in
theorem c_X5_linkCount {l : Launch} (hl : l.stackTraces = false) {G : zG} {S : zS} {J : Int64} {E : UInt64} {n t : Nat} (hw : zNow S n t)  : nCR l G mX5_linkCount 6 0 0 [.ref 0] S J E (some (zi (S 26 1))) S J E := by
  refine nCR.of hl (by decide) rfl (Nat.le_of_ble_eq_true rfl) (ls := [some (.ref 0)]) rfl (fun X C hF hX => ?_)
  subst hX
  obtain ⟨hn, hz, ht, ht4, hnb, hhv, hdb, hru⟩ := id hw
  refine sw_aload_0 C dX5_linkCount_0 ?_
  refine sw_getR C (o' := 25) fX5_10 rfl (by decide) rfl rfl (by decide) dX5_linkCount_1 ?_
  refine sw_getR C (o' := 26) fX5_65 rfl (by decide) rfl rfl (by decide) dX5_linkCount_4 ?_
  refine sn_getI C fX5_98 rfl (by decide) rfl dX5_linkCount_7 ?_
  exact sn_iret C rfl hF dX5_linkCount_10 (by decide) (by decide) (by first | rfl | (simp [*]; done)) rfl rfl rfl

set_option maxRecDepth 100000 in
set_option maxHeartbeats 4000000 in
theorem c_X5_componentCount {l : Launch} (hl : l.stackTraces = false) {G : zG} {S : zS} {J : Int64} {E : UInt64} {n t : Nat} (hw : zNow S n t)  : nCR l G mX5_componentCount 6 0 0 [.ref 0] S J E (some (zi (zSearch S n).1)) S J E := by
  refine nCR.of hl (by decide) rfl (Nat.le_of_ble_eq_true rfl) (ls := [some (.ref 0)]) rfl (fun X C hF hX => ?_)
  subst hX
  obtain ⟨hn, hz, ht, ht4, hnb, hhv, hdb, hru⟩ := id hw
  refine sw_aload_0 C dX5_componentCount_0 ?_
  refine sw_getR C (o' := 25) fX5_10 rfl (by decide) rfl rfl (by decide) dX5_componentCount_1 ?_
  refine sw_getR C (o' := 26) fX5_65 rfl (by decide) rfl rfl (by decide) dX5_componentCount_4 ?_
  refine sn_cV0r C vX1_piecesBySearch lX5_107 rfl (by decide) rfl rfl dX5_componentCount_7 (Nat.le_of_ble_eq_true rfl) (c_X1_piecesBySearch hl hn hz) (by decide) (by decide) (by decide) ?_
  exact sn_iret C rfl hF dX5_componentCount_10 (by decide) (by decide) (by first | rfl | (simp [*]; done)) rfl rfl rfl

set_option maxRecDepth 100000 in
set_option maxHeartbeats 4000000 in
theorem c_X5_componentCountByUnion {l : Launch} (hl : l.stackTraces = false) {G : zG} {S : zS} {J : Int64} {E : UInt64} {n t : Nat} (hw : zNow S n t)  : nCR l G mX5_componentCountByUnion 6 0 0 [.ref 0] S J E (some (zi (zUnion S n).1)) (zUnion S n).2 J E := by
  refine nCR.of hl (by decide) rfl (Nat.le_of_ble_eq_true rfl) (ls := [some (.ref 0)]) rfl (fun X C hF hX => ?_)
  subst hX
  obtain ⟨hn, hz, ht, ht4, hnb, hhv, hdb, hru⟩ := id hw
  refine sw_aload_0 C dX5_componentCountByUnion_0 ?_
  refine sw_getR C (o' := 25) fX5_10 rfl (by decide) rfl rfl (by decide) dX5_componentCountByUnion_1 ?_
  refine sw_getR C (o' := 26) fX5_65 rfl (by decide) rfl rfl (by decide) dX5_componentCountByUnion_4 ?_
  refine sn_cV0r C vX1_piecesByUnion lX5_111 rfl (by decide) rfl rfl dX5_componentCountByUnion_7 (Nat.le_of_ble_eq_true rfl) (c_X1_piecesByUnion hl hn hz) (by decide) (by decide) (by decide) ?_
  exact sn_iret C rfl hF dX5_componentCountByUnion_10 (by decide) (by decide) (by first | rfl | (simp [*]; done)) rfl rfl rfl

set_option maxRecDepth 100000 in
set_option maxHeartbeats 4000000 in
theorem c_X5_rumourCount {l : Launch} (hl : l.stackTraces = false) {G : zG} {S : zS} {J : Int64} {E : UInt64} {n t : Nat} (hw : zNow S n t)  : nCR l G mX5_rumourCount 6 0 0 [.ref 0] S J E (some (zi t)) S J E := by
  refine nCR.of hl (by decide) rfl (Nat.le_of_ble_eq_true rfl) (ls := [some (.ref 0)]) rfl (fun X C hF hX => ?_)
  subst hX
  obtain ⟨hn, hz, ht, ht4, hnb, hhv, hdb, hru⟩ := id hw
  refine sw_aload_0 C dX5_rumourCount_0 ?_
  refine sw_getR C (o' := 25) fX5_10 rfl (by decide) rfl rfl (by decide) dX5_rumourCount_1 ?_
  refine sn_getI C fX5_114 rfl (by decide) rfl dX5_rumourCount_4 ?_
  exact sn_iret C rfl hF dX5_rumourCount_7 (by decide) (by decide) (by exact ht) rfl rfl rfl

set_option maxRecDepth 100000 in
set_option maxHeartbeats 4000000 in
theorem c_X5_round {l : Launch} (hl : l.stackTraces = false) {G : zG} {S : zS} {J : Int64} {E : UInt64} {n t : Nat} (hw : zNow S n t)  : nCR l G mX5_round 6 0 0 [.ref 0] S J E (some (zi (S 25 5))) S J E := by
  refine nCR.of hl (by decide) rfl (Nat.le_of_ble_eq_true rfl) (ls := [some (.ref 0)]) rfl (fun X C hF hX => ?_)
  subst hX
  obtain ⟨hn, hz, ht, ht4, hnb, hhv, hdb, hru⟩ := id hw
  refine sw_aload_0 C dX5_round_0 ?_
  refine sw_getR C (o' := 25) fX5_10 rfl (by decide) rfl rfl (by decide) dX5_round_1 ?_
  refine sn_getI C fX5_201 rfl (by decide) rfl dX5_round_4 ?_
  exact sn_iret C rfl hF dX5_round_7 (by decide) (by decide) (by first | rfl | (simp [*]; done)) rfl rfl rfl

set_option maxRecDepth 100000 in
set_option maxHeartbeats 4000000 in
theorem c_X5_heardTotal {l : Launch} (hl : l.stackTraces = false) {G : zG} {S : zS} {J : Int64} {E : UInt64} {n t : Nat} (hw : zNow S n t)  : nCR l G mX5_heardTotal 6 0 0 [.ref 0] S J E (some (zi (S 25 6))) S J E := by
  refine nCR.of hl (by decide) rfl (Nat.le_of_ble_eq_true rfl) (ls := [some (.ref 0)]) rfl (fun X C hF hX => ?_)
  subst hX
  obtain ⟨hn, hz, ht, ht4, hnb, hhv, hdb, hru⟩ := id hw
  refine sw_aload_0 C dX5_heardTotal_0 ?_
  refine sw_getR C (o' := 25) fX5_10 rfl (by decide) rfl rfl (by decide) dX5_heardTotal_1 ?_
  refine sn_getI C fX5_204 rfl (by decide) rfl dX5_heardTotal_4 ?_
  exact sn_iret C rfl hF dX5_heardTotal_7 (by decide) (by decide) (by first | rfl | (simp [*]; done)) rfl rfl rfl

set_option maxRecDepth 100000 in
set_option maxHeartbeats 4000000 in
theorem c_X5_successfulChecks {l : Launch} (hl : l.stackTraces = false) {G : zG} {S : zS} {J : Int64} {E : UInt64} {n t : Nat} (hw : zNow S n t)  : nCR l G mX5_successfulChecks 6 0 0 [.ref 0] S J E (some (zi (S 25 7))) S J E := by
  refine nCR.of hl (by decide) rfl (Nat.le_of_ble_eq_true rfl) (ls := [some (.ref 0)]) rfl (fun X C hF hX => ?_)
  subst hX
  obtain ⟨hn, hz, ht, ht4, hnb, hhv, hdb, hru⟩ := id hw
  refine sw_aload_0 C dX5_successfulChecks_0 ?_
  refine sw_getR C (o' := 25) fX5_10 rfl (by decide) rfl rfl (by decide) dX5_successfulChecks_1 ?_
  refine sn_getI C fX5_207 rfl (by decide) rfl dX5_successfulChecks_4 ?_
  exact sn_iret C rfl hF dX5_successfulChecks_7 (by decide) (by decide) (by first | rfl | (simp [*]; done)) rfl rfl rfl

set_option maxRecDepth 100000 in
set_option maxHeartbeats 4000000 in
theorem c_X5_strength {l : Launch} (hl : l.stackTraces = false) {G : zG} {S : zS} {J : Int64} {E : UInt64} {n t : Nat} (hw : zNow S n t) {x : Nat} (hx : x < 2 ^ 32) (hxt : x < t) : nCR l G mX5_strength 6 0 0 [.ref 0, zi x] S J E (some (zi (S (33 + 2 * x) 1))) S J E := by
  refine nCR.of hl (by decide) rfl (Nat.le_of_ble_eq_true rfl) (ls := [some (.ref 0), some (zi x)]) rfl (fun X C hF hX => ?_)
  subst hX
  obtain ⟨hn, hz, ht, ht4, hnb, hhv, hdb, hru⟩ := id hw
  refine sw_aload_0 C dX5_strength_0 ?_
  refine sw_iload_1 C dX5_strength_1 ?_
  refine sn_cV1v C vX5_needRumour lX5_117 rfl (by decide) rfl rfl dX5_strength_2 (Nat.le_of_ble_eq_true rfl) (c_X5_needRumour hl ht ht4 hx hxt) (by decide) (by decide) (by decide) ?_
  refine sw_aload_0 C dX5_strength_5 ?_
  refine sw_getR C (o' := 25) fX5_10 rfl (by decide) rfl rfl (by decide) dX5_strength_6 ?_
  refine sw_getR C (o' := 32) fX5_120 rfl (by decide) rfl rfl (by decide) dX5_strength_9 ?_
  refine sw_iload_1 C dX5_strength_12 ?_
  refine sn_aald C (o' := (33 + 2 * x)) rfl (by decide) (by decide) (by omega) (by decide) (zP32 (by omega)) (by omega) dX5_strength_13 ?_
  refine sn_getI C fX5_124 (zRu0 (by omega)).1 (zRu0 (by omega)).2.1 rfl dX5_strength_14 ?_
  exact sn_iret C rfl hF dX5_strength_17 (by decide) (by decide) (by first | rfl | (simp [*]; done)) rfl rfl rfl

set_option maxRecDepth 100000 in
set_option maxHeartbeats 4000000 in
theorem t1_X5_strength {l : Launch} (hl : l.stackTraces = false) {G : zG} {S : zS} {J : Int64} {E : UInt64} {n t : Nat} (hw : zNow S n t) {x : Nat} (hx : x < 2 ^ 32) (hxt : ¬ x < t) : nCT l G mX5_strength 6 1 6 [.ref 0, zi x] S J E "java/lang/IndexOutOfBoundsException" S J E := by
  refine nCT.of hl (by decide) rfl (Nat.le_of_ble_eq_true rfl) (ls := [some (.ref 0), some (zi x)]) rfl (fun X C hF hX => ?_)
  subst hX
  obtain ⟨hn, hz, ht, ht4, hnb, hhv, hdb, hru⟩ := id hw
  refine sw_aload_0 C dX5_strength_0 ?_
  refine sw_iload_1 C dX5_strength_1 ?_
  exact sn_cV1T C vX5_needRumour kX5_117 rfl (by decide) rfl rfl dX5_strength_2 (Nat.le_of_ble_eq_true rfl) (t_X5_needRumour hl ht ht4 hx hxt) (by decide) (by decide) (by decide) hF

set_option maxRecDepth 100000 in
set_option maxHeartbeats 4000000 in
theorem c_X5_starter {l : Launch} (hl : l.stackTraces = false) {G : zG} {S : zS} {J : Int64} {E : UInt64} {n t : Nat} (hw : zNow S n t) {x : Nat} (hx : x < 2 ^ 32) (hxt : x < t) : nCR l G mX5_starter 6 0 0 [.ref 0, zi x] S J E (some (zi (S (33 + 2 * x) 0))) S J E := by
  refine nCR.of hl (by decide) rfl (Nat.le_of_ble_eq_true rfl) (ls := [some (.ref 0), some (zi x)]) rfl (fun X C hF hX => ?_)
  subst hX
  obtain ⟨hn, hz, ht, ht4, hnb, hhv, hdb, hru⟩ := id hw
  refine sw_aload_0 C dX5_starter_0 ?_
  refine sw_iload_1 C dX5_starter_1 ?_
  refine sn_cV1v C vX5_needRumour lX5_117 rfl (by decide) rfl rfl dX5_starter_2 (Nat.le_of_ble_eq_true rfl) (c_X5_needRumour hl ht ht4 hx hxt) (by decide) (by decide) (by decide) ?_
  refine sw_aload_0 C dX5_starter_5 ?_
  refine sw_getR C (o' := 25) fX5_10 rfl (by decide) rfl rfl (by decide) dX5_starter_6 ?_
  refine sw_getR C (o' := 32) fX5_120 rfl (by decide) rfl rfl (by decide) dX5_starter_9 ?_
  refine sw_iload_1 C dX5_starter_12 ?_
  refine sn_aald C (o' := (33 + 2 * x)) rfl (by decide) (by decide) (by omega) (by decide) (zP32 (by omega)) (by omega) dX5_starter_13 ?_
  refine sn_getI C fX5_130 (zRu0 (by omega)).1 (zRu0 (by omega)).2.1 rfl dX5_starter_14 ?_
  exact sn_iret C rfl hF dX5_starter_17 (by decide) (by decide) (by first | rfl | (simp [*]; done)) rfl rfl rfl

set_option maxRecDepth 100000 in
set_option maxHeartbeats 4000000 in
theorem t1_X5_starter {l : Launch} (hl : l.stackTraces = false) {G : zG} {S : zS} {J : Int64} {E : UInt64} {n t : Nat} (hw : zNow S n t) {x : Nat} (hx : x < 2 ^ 32) (hxt : ¬ x < t) : nCT l G mX5_starter 6 1 6 [.ref 0, zi x] S J E "java/lang/IndexOutOfBoundsException" S J E := by
  refine nCT.of hl (by decide) rfl (Nat.le_of_ble_eq_true rfl) (ls := [some (.ref 0), some (zi x)]) rfl (fun X C hF hX => ?_)
  subst hX
  obtain ⟨hn, hz, ht, ht4, hnb, hhv, hdb, hru⟩ := id hw
  refine sw_aload_0 C dX5_starter_0 ?_
  refine sw_iload_1 C dX5_starter_1 ?_
  exact sn_cV1T C vX5_needRumour kX5_117 rfl (by decide) rfl rfl dX5_starter_2 (Nat.le_of_ble_eq_true rfl) (t_X5_needRumour hl ht ht4 hx hxt) (by decide) (by decide) (by decide) hF

set_option maxRecDepth 100000 in
set_option maxHeartbeats 4000000 in
theorem c_X5_isAlive {l : Launch} (hl : l.stackTraces = false) {G : zG} {S : zS} {J : Int64} {E : UInt64} {n t : Nat} (hw : zNow S n t) {x : Nat} (hx : x < 2 ^ 32) (hxt : x < t) : nCR l G mX5_isAlive 6 0 0 [.ref 0, zi x] S J E (some (zi (decide (S (33 + 2 * x) 2 = 1)).toNat)) S J E := by
  refine nCR.of hl (by decide) rfl (Nat.le_of_ble_eq_true rfl) (ls := [some (.ref 0), some (zi x)]) rfl (fun X C hF hX => ?_)
  subst hX
  obtain ⟨hn, hz, ht, ht4, hnb, hhv, hdb, hru⟩ := id hw
  obtain ⟨f1, f2, f3, f4⟩ := hru x (by omega)
  refine sw_aload_0 C dX5_isAlive_0 ?_
  refine sw_iload_1 C dX5_isAlive_1 ?_
  refine sn_cV1v C vX5_needRumour lX5_117 rfl (by decide) rfl rfl dX5_isAlive_2 (Nat.le_of_ble_eq_true rfl) (c_X5_needRumour hl ht ht4 hx hxt) (by decide) (by decide) (by decide) ?_
  refine sw_aload_0 C dX5_isAlive_5 ?_
  refine sw_getR C (o' := 25) fX5_10 rfl (by decide) rfl rfl (by decide) dX5_isAlive_6 ?_
  refine sw_getR C (o' := 32) fX5_120 rfl (by decide) rfl rfl (by decide) dX5_isAlive_9 ?_
  refine sw_iload_1 C dX5_isAlive_12 ?_
  refine sn_aald C (o' := (33 + 2 * x)) rfl (by decide) (by decide) (by omega) (by decide) (zP32 (by omega)) (by omega) dX5_isAlive_13 ?_
  refine sn_getI C fX5_127 (zRu0 (by omega)).1 (zRu0 (by omega)).2.1 rfl dX5_isAlive_14 ?_
  rw [zB01 f2]
  exact sn_zret C (v := decide (S (33 + 2 * x) 2 = 1)) rfl hF dX5_isAlive_17 (by decide) (by decide) rfl rfl rfl rfl

set_option maxRecDepth 100000 in
set_option maxHeartbeats 4000000 in
theorem t1_X5_isAlive {l : Launch} (hl : l.stackTraces = false) {G : zG} {S : zS} {J : Int64} {E : UInt64} {n t : Nat} (hw : zNow S n t) {x : Nat} (hx : x < 2 ^ 32) (hxt : ¬ x < t) : nCT l G mX5_isAlive 6 1 6 [.ref 0, zi x] S J E "java/lang/IndexOutOfBoundsException" S J E := by
  refine nCT.of hl (by decide) rfl (Nat.le_of_ble_eq_true rfl) (ls := [some (.ref 0), some (zi x)]) rfl (fun X C hF hX => ?_)
  subst hX
  obtain ⟨hn, hz, ht, ht4, hnb, hhv, hdb, hru⟩ := id hw
  refine sw_aload_0 C dX5_isAlive_0 ?_
  refine sw_iload_1 C dX5_isAlive_1 ?_
  exact sn_cV1T C vX5_needRumour kX5_117 rfl (by decide) rfl rfl dX5_isAlive_2 (Nat.le_of_ble_eq_true rfl) (t_X5_needRumour hl ht ht4 hx hxt) (by decide) (by decide) (by decide) hF

set_option maxRecDepth 100000 in
set_option maxHeartbeats 4000000 in
theorem c_X5_isSpreader {l : Launch} (hl : l.stackTraces = false) {G : zG} {S : zS} {J : Int64} {E : UInt64} {n t : Nat} (hw : zNow S n t) {x : Nat} (hx : x < 2 ^ 32) (hxt : x < t) {y : Nat} (hy : y < 2 ^ 32) (hyl : y < n) : nCR l G mX5_isSpreader 6 0 0 [.ref 0, zi x, zi y] S J E (some (zi ((S (33 + 2 * x) 3).testBit y).toNat)) S J E := by
  refine nCR.of hl (by decide) rfl (Nat.le_of_ble_eq_true rfl) (ls := [some (.ref 0), some (zi x), some (zi y)]) rfl (fun X C hF hX => ?_)
  subst hX
  obtain ⟨hn, hz, ht, ht4, hnb, hhv, hdb, hru⟩ := id hw
  refine sw_aload_0 C dX5_isSpreader_0 ?_
  refine sw_iload_1 C dX5_isSpreader_1 ?_
  refine sn_cV1v C vX5_needRumour lX5_117 rfl (by decide) rfl rfl dX5_isSpreader_2 (Nat.le_of_ble_eq_true rfl) (c_X5_needRumour hl ht ht4 hx hxt) (by decide) (by decide) (by decide) ?_
  refine sw_aload_0 C dX5_isSpreader_5 ?_
  refine sw_iload_2 C dX5_isSpreader_6 ?_
  refine sn_cV1v C vX5_needListener lX5_74 rfl (by decide) rfl rfl dX5_isSpreader_7 (Nat.le_of_ble_eq_true rfl) (c_X5_needListener hl hn hz hy hyl) (by decide) (by decide) (by decide) ?_
  refine sw_aload_0 C dX5_isSpreader_10 ?_
  refine sw_getR C (o' := 25) fX5_10 rfl (by decide) rfl rfl (by decide) dX5_isSpreader_11 ?_
  refine sw_getR C (o' := 32) fX5_120 rfl (by decide) rfl rfl (by decide) dX5_isSpreader_14 ?_
  refine sw_iload_1 C dX5_isSpreader_17 ?_
  refine sn_aald C (o' := (33 + 2 * x)) rfl (by decide) (by decide) (by omega) (by decide) (zP32 (by omega)) (by omega) dX5_isSpreader_18 ?_
  refine sn_getI C fX5_133 (zRu0 (by omega)).1 (zRu0 (by omega)).2.1 rfl dX5_isSpreader_19 ?_
  refine sw_iload_2 C dX5_isSpreader_22 ?_
  refine sn_cS2r C vX5_contains lX5_136 dX5_isSpreader_23 (Nat.le_of_ble_eq_true rfl) (c_X5_contains hl (by omega)) (by decide) (by decide) (by decide) ?_
  exact sn_zret C rfl hF dX5_isSpreader_26 (by decide) (by decide) (by first | rfl | (simp [*]; done)) rfl rfl rfl

set_option maxRecDepth 100000 in
set_option maxHeartbeats 4000000 in
theorem t1_X5_isSpreader {l : Launch} (hl : l.stackTraces = false) {G : zG} {S : zS} {J : Int64} {E : UInt64} {n t : Nat} (hw : zNow S n t) {x : Nat} (hx : x < 2 ^ 32) (hxt : ¬ x < t) {y : Nat} (hy : y < 2 ^ 32) : nCT l G mX5_isSpreader 6 1 6 [.ref 0, zi x, zi y] S J E "java/lang/IndexOutOfBoundsException" S J E := by
  refine nCT.of hl (by decide) rfl (Nat.le_of_ble_eq_true rfl) (ls := [some (.ref 0), some (zi x), some (zi y)]) rfl (fun X C hF hX => ?_)
  subst hX
  obtain ⟨hn, hz, ht, ht4, hnb, hhv, hdb, hru⟩ := id hw
  refine sw_aload_0 C dX5_isSpreader_0 ?_
  refine sw_iload_1 C dX5_isSpreader_1 ?_
  exact sn_cV1T C vX5_needRumour kX5_117 rfl (by decide) rfl rfl dX5_isSpreader_2 (Nat.le_of_ble_eq_true rfl) (t_X5_needRumour hl ht ht4 hx hxt) (by decide) (by decide) (by decide) hF

set_option maxRecDepth 100000 in
set_option maxHeartbeats 4000000 in
theorem t2_X5_isSpreader {l : Launch} (hl : l.stackTraces = false) {G : zG} {S : zS} {J : Int64} {E : UInt64} {n t : Nat} (hw : zNow S n t) {x : Nat} (hx : x < 2 ^ 32) (hxt : x < t) {y : Nat} (hy : y < 2 ^ 32) (hyl : ¬ y < n) : nCT l G mX5_isSpreader 6 1 6 [.ref 0, zi x, zi y] S J E "java/lang/IndexOutOfBoundsException" S J E := by
  refine nCT.of hl (by decide) rfl (Nat.le_of_ble_eq_true rfl) (ls := [some (.ref 0), some (zi x), some (zi y)]) rfl (fun X C hF hX => ?_)
  subst hX
  obtain ⟨hn, hz, ht, ht4, hnb, hhv, hdb, hru⟩ := id hw
  refine sw_aload_0 C dX5_isSpreader_0 ?_
  refine sw_iload_1 C dX5_isSpreader_1 ?_
  refine sn_cV1v C vX5_needRumour lX5_117 rfl (by decide) rfl rfl dX5_isSpreader_2 (Nat.le_of_ble_eq_true rfl) (c_X5_needRumour hl ht ht4 hx hxt) (by decide) (by decide) (by decide) ?_
  refine sw_aload_0 C dX5_isSpreader_5 ?_
  refine sw_iload_2 C dX5_isSpreader_6 ?_
  exact sn_cV1T C vX5_needListener kX5_74 rfl (by decide) rfl rfl dX5_isSpreader_7 (Nat.le_of_ble_eq_true rfl) (t_X5_needListener hl hn hz hy hyl) (by decide) (by decide) (by decide) hF

set_option maxRecDepth 100000 in
set_option maxHeartbeats 4000000 in
theorem c_X5_isSceptic {l : Launch} (hl : l.stackTraces = false) {G : zG} {S : zS} {J : Int64} {E : UInt64} {n t : Nat} (hw : zNow S n t) {x : Nat} (hx : x < 2 ^ 32) (hxt : x < t) {y : Nat} (hy : y < 2 ^ 32) (hyl : y < n) : nCR l G mX5_isSceptic 6 0 0 [.ref 0, zi x, zi y] S J E (some (zi ((S (33 + 2 * x) 4).testBit y).toNat)) S J E := by
  refine nCR.of hl (by decide) rfl (Nat.le_of_ble_eq_true rfl) (ls := [some (.ref 0), some (zi x), some (zi y)]) rfl (fun X C hF hX => ?_)
  subst hX
  obtain ⟨hn, hz, ht, ht4, hnb, hhv, hdb, hru⟩ := id hw
  refine sw_aload_0 C dX5_isSceptic_0 ?_
  refine sw_iload_1 C dX5_isSceptic_1 ?_
  refine sn_cV1v C vX5_needRumour lX5_117 rfl (by decide) rfl rfl dX5_isSceptic_2 (Nat.le_of_ble_eq_true rfl) (c_X5_needRumour hl ht ht4 hx hxt) (by decide) (by decide) (by decide) ?_
  refine sw_aload_0 C dX5_isSceptic_5 ?_
  refine sw_iload_2 C dX5_isSceptic_6 ?_
  refine sn_cV1v C vX5_needListener lX5_74 rfl (by decide) rfl rfl dX5_isSceptic_7 (Nat.le_of_ble_eq_true rfl) (c_X5_needListener hl hn hz hy hyl) (by decide) (by decide) (by decide) ?_
  refine sw_aload_0 C dX5_isSceptic_10 ?_
  refine sw_getR C (o' := 25) fX5_10 rfl (by decide) rfl rfl (by decide) dX5_isSceptic_11 ?_
  refine sw_getR C (o' := 32) fX5_120 rfl (by decide) rfl rfl (by decide) dX5_isSceptic_14 ?_
  refine sw_iload_1 C dX5_isSceptic_17 ?_
  refine sn_aald C (o' := (33 + 2 * x)) rfl (by decide) (by decide) (by omega) (by decide) (zP32 (by omega)) (by omega) dX5_isSceptic_18 ?_
  refine sn_getI C fX5_139 (zRu0 (by omega)).1 (zRu0 (by omega)).2.1 rfl dX5_isSceptic_19 ?_
  refine sw_iload_2 C dX5_isSceptic_22 ?_
  refine sn_cS2r C vX5_contains lX5_136 dX5_isSceptic_23 (Nat.le_of_ble_eq_true rfl) (c_X5_contains hl (by omega)) (by decide) (by decide) (by decide) ?_
  exact sn_zret C rfl hF dX5_isSceptic_26 (by decide) (by decide) (by first | rfl | (simp [*]; done)) rfl rfl rfl

set_option maxRecDepth 100000 in
set_option maxHeartbeats 4000000 in
theorem t1_X5_isSceptic {l : Launch} (hl : l.stackTraces = false) {G : zG} {S : zS} {J : Int64} {E : UInt64} {n t : Nat} (hw : zNow S n t) {x : Nat} (hx : x < 2 ^ 32) (hxt : ¬ x < t) {y : Nat} (hy : y < 2 ^ 32) : nCT l G mX5_isSceptic 6 1 6 [.ref 0, zi x, zi y] S J E "java/lang/IndexOutOfBoundsException" S J E := by
  refine nCT.of hl (by decide) rfl (Nat.le_of_ble_eq_true rfl) (ls := [some (.ref 0), some (zi x), some (zi y)]) rfl (fun X C hF hX => ?_)
  subst hX
  obtain ⟨hn, hz, ht, ht4, hnb, hhv, hdb, hru⟩ := id hw
  refine sw_aload_0 C dX5_isSceptic_0 ?_
  refine sw_iload_1 C dX5_isSceptic_1 ?_
  exact sn_cV1T C vX5_needRumour kX5_117 rfl (by decide) rfl rfl dX5_isSceptic_2 (Nat.le_of_ble_eq_true rfl) (t_X5_needRumour hl ht ht4 hx hxt) (by decide) (by decide) (by decide) hF

set_option maxRecDepth 100000 in
set_option maxHeartbeats 4000000 in
theorem t2_X5_isSceptic {l : Launch} (hl : l.stackTraces = false) {G : zG} {S : zS} {J : Int64} {E : UInt64} {n t : Nat} (hw : zNow S n t) {x : Nat} (hx : x < 2 ^ 32) (hxt : x < t) {y : Nat} (hy : y < 2 ^ 32) (hyl : ¬ y < n) : nCT l G mX5_isSceptic 6 1 6 [.ref 0, zi x, zi y] S J E "java/lang/IndexOutOfBoundsException" S J E := by
  refine nCT.of hl (by decide) rfl (Nat.le_of_ble_eq_true rfl) (ls := [some (.ref 0), some (zi x), some (zi y)]) rfl (fun X C hF hX => ?_)
  subst hX
  obtain ⟨hn, hz, ht, ht4, hnb, hhv, hdb, hru⟩ := id hw
  refine sw_aload_0 C dX5_isSceptic_0 ?_
  refine sw_iload_1 C dX5_isSceptic_1 ?_
  refine sn_cV1v C vX5_needRumour lX5_117 rfl (by decide) rfl rfl dX5_isSceptic_2 (Nat.le_of_ble_eq_true rfl) (c_X5_needRumour hl ht ht4 hx hxt) (by decide) (by decide) (by decide) ?_
  refine sw_aload_0 C dX5_isSceptic_5 ?_
  refine sw_iload_2 C dX5_isSceptic_6 ?_
  exact sn_cV1T C vX5_needListener kX5_74 rfl (by decide) rfl rfl dX5_isSceptic_7 (Nat.le_of_ble_eq_true rfl) (t_X5_needListener hl hn hz hy hyl) (by decide) (by decide) (by decide) hF

set_option maxRecDepth 100000 in
set_option maxHeartbeats 4000000 in
theorem c_X5_spreaderCount {l : Launch} (hl : l.stackTraces = false) {G : zG} {S : zS} {J : Int64} {E : UInt64} {n t : Nat} (hw : zNow S n t) {x : Nat} (hx : x < 2 ^ 32) (hxt : x < t) : nCR l G mX5_spreaderCount 6 0 0 [.ref 0, zi x] S J E (some (zi (zpop (S (33 + 2 * x) 3)))) S J E := by
  refine nCR.of hl (by decide) rfl (Nat.le_of_ble_eq_true rfl) (ls := [some (.ref 0), some (zi x)]) rfl (fun X C hF hX => ?_)
  subst hX
  obtain ⟨hn, hz, ht, ht4, hnb, hhv, hdb, hru⟩ := id hw
  obtain ⟨f1, f2, f3, f4⟩ := hru x (by omega)
  refine sw_aload_0 C dX5_spreaderCount_0 ?_
  refine sw_iload_1 C dX5_spreaderCount_1 ?_
  refine sn_cV1v C vX5_needRumour lX5_117 rfl (by decide) rfl rfl dX5_spreaderCount_2 (Nat.le_of_ble_eq_true rfl) (c_X5_needRumour hl ht ht4 hx hxt) (by decide) (by decide) (by decide) ?_
  refine sw_aload_0 C dX5_spreaderCount_5 ?_
  refine sw_getR C (o' := 25) fX5_10 rfl (by decide) rfl rfl (by decide) dX5_spreaderCount_6 ?_
  refine sw_getR C (o' := 32) fX5_120 rfl (by decide) rfl rfl (by decide) dX5_spreaderCount_9 ?_
  refine sw_iload_1 C dX5_spreaderCount_12 ?_
  refine sn_aald C (o' := (33 + 2 * x)) rfl (by decide) (by decide) (by omega) (by decide) (zP32 (by omega)) (by omega) dX5_spreaderCount_13 ?_
  refine sn_getI C fX5_133 (zRu0 (by omega)).1 (zRu0 (by omega)).2.1 rfl dX5_spreaderCount_14 ?_
  refine sn_cS1r C vJ6_bitCount_0f7a4 lX5_92 dX5_spreaderCount_17 (Nat.le_of_ble_eq_true rfl) (c_J6_bitCount_0f7a4 hl f3) (by decide) (by decide) (by decide) ?_
  exact sn_iret C rfl hF dX5_spreaderCount_20 (by decide) (by decide) (by first | rfl | (simp [*]; done)) rfl rfl rfl

set_option maxRecDepth 100000 in
set_option maxHeartbeats 4000000 in
theorem t1_X5_spreaderCount {l : Launch} (hl : l.stackTraces = false) {G : zG} {S : zS} {J : Int64} {E : UInt64} {n t : Nat} (hw : zNow S n t) {x : Nat} (hx : x < 2 ^ 32) (hxt : ¬ x < t) : nCT l G mX5_spreaderCount 6 1 6 [.ref 0, zi x] S J E "java/lang/IndexOutOfBoundsException" S J E := by
  refine nCT.of hl (by decide) rfl (Nat.le_of_ble_eq_true rfl) (ls := [some (.ref 0), some (zi x)]) rfl (fun X C hF hX => ?_)
  subst hX
  obtain ⟨hn, hz, ht, ht4, hnb, hhv, hdb, hru⟩ := id hw
  refine sw_aload_0 C dX5_spreaderCount_0 ?_
  refine sw_iload_1 C dX5_spreaderCount_1 ?_
  exact sn_cV1T C vX5_needRumour kX5_117 rfl (by decide) rfl rfl dX5_spreaderCount_2 (Nat.le_of_ble_eq_true rfl) (t_X5_needRumour hl ht ht4 hx hxt) (by decide) (by decide) (by decide) hF

set_option maxRecDepth 100000 in
set_option maxHeartbeats 4000000 in
theorem c_X5_scepticCount {l : Launch} (hl : l.stackTraces = false) {G : zG} {S : zS} {J : Int64} {E : UInt64} {n t : Nat} (hw : zNow S n t) {x : Nat} (hx : x < 2 ^ 32) (hxt : x < t) : nCR l G mX5_scepticCount 6 0 0 [.ref 0, zi x] S J E (some (zi (zpop (S (33 + 2 * x) 4)))) S J E := by
  refine nCR.of hl (by decide) rfl (Nat.le_of_ble_eq_true rfl) (ls := [some (.ref 0), some (zi x)]) rfl (fun X C hF hX => ?_)
  subst hX
  obtain ⟨hn, hz, ht, ht4, hnb, hhv, hdb, hru⟩ := id hw
  obtain ⟨f1, f2, f3, f4⟩ := hru x (by omega)
  refine sw_aload_0 C dX5_scepticCount_0 ?_
  refine sw_iload_1 C dX5_scepticCount_1 ?_
  refine sn_cV1v C vX5_needRumour lX5_117 rfl (by decide) rfl rfl dX5_scepticCount_2 (Nat.le_of_ble_eq_true rfl) (c_X5_needRumour hl ht ht4 hx hxt) (by decide) (by decide) (by decide) ?_
  refine sw_aload_0 C dX5_scepticCount_5 ?_
  refine sw_getR C (o' := 25) fX5_10 rfl (by decide) rfl rfl (by decide) dX5_scepticCount_6 ?_
  refine sw_getR C (o' := 32) fX5_120 rfl (by decide) rfl rfl (by decide) dX5_scepticCount_9 ?_
  refine sw_iload_1 C dX5_scepticCount_12 ?_
  refine sn_aald C (o' := (33 + 2 * x)) rfl (by decide) (by decide) (by omega) (by decide) (zP32 (by omega)) (by omega) dX5_scepticCount_13 ?_
  refine sn_getI C fX5_139 (zRu0 (by omega)).1 (zRu0 (by omega)).2.1 rfl dX5_scepticCount_14 ?_
  refine sn_cS1r C vJ6_bitCount_0f7a4 lX5_92 dX5_scepticCount_17 (Nat.le_of_ble_eq_true rfl) (c_J6_bitCount_0f7a4 hl f4) (by decide) (by decide) (by decide) ?_
  exact sn_iret C rfl hF dX5_scepticCount_20 (by decide) (by decide) (by first | rfl | (simp [*]; done)) rfl rfl rfl

set_option maxRecDepth 100000 in
set_option maxHeartbeats 4000000 in
theorem t1_X5_scepticCount {l : Launch} (hl : l.stackTraces = false) {G : zG} {S : zS} {J : Int64} {E : UInt64} {n t : Nat} (hw : zNow S n t) {x : Nat} (hx : x < 2 ^ 32) (hxt : ¬ x < t) : nCT l G mX5_scepticCount 6 1 6 [.ref 0, zi x] S J E "java/lang/IndexOutOfBoundsException" S J E := by
  refine nCT.of hl (by decide) rfl (Nat.le_of_ble_eq_true rfl) (ls := [some (.ref 0), some (zi x)]) rfl (fun X C hF hX => ?_)
  subst hX
  obtain ⟨hn, hz, ht, ht4, hnb, hhv, hdb, hru⟩ := id hw
  refine sw_aload_0 C dX5_scepticCount_0 ?_
  refine sw_iload_1 C dX5_scepticCount_1 ?_
  exact sn_cV1T C vX5_needRumour kX5_117 rfl (by decide) rfl rfl dX5_scepticCount_2 (Nat.le_of_ble_eq_true rfl) (t_X5_needRumour hl ht ht4 hx hxt) (by decide) (by decide) (by decide) hF

set_option maxRecDepth 100000 in
set_option maxHeartbeats 4000000 in
theorem c_X5_heardRound {l : Launch} (hl : l.stackTraces = false) {G : zG} {S : zS} {J : Int64} {E : UInt64} {n t : Nat} (hw : zNow S n t) {x : Nat} (hx : x < 2 ^ 32) (hxt : x < t) {y : Nat} (hy : y < 2 ^ 32) (hyl : y < n) (ha : (S (33 + 2 * x) 3 ||| S (33 + 2 * x) 4).testBit y = true) : nCR l G mX5_heardRound 6 0 0 [.ref 0, zi x, zi y] S J E (some (zi (S (33 + 2 * x + 1) y))) S J E := by
  refine nCR.of hl (by decide) rfl (Nat.le_of_ble_eq_true rfl) (ls := [some (.ref 0), some (zi x), some (zi y)]) rfl (fun X C hF hX => ?_)
  subst hX
  obtain ⟨hn, hz, ht, ht4, hnb, hhv, hdb, hru⟩ := id hw
  refine sw_aload_0 C dX5_heardRound_0 ?_
  refine sw_iload_1 C dX5_heardRound_1 ?_
  refine sn_cV1v C vX5_needRumour lX5_117 rfl (by decide) rfl rfl dX5_heardRound_2 (Nat.le_of_ble_eq_true rfl) (c_X5_needRumour hl ht ht4 hx hxt) (by decide) (by decide) (by decide) ?_
  refine sw_aload_0 C dX5_heardRound_5 ?_
  refine sw_iload_2 C dX5_heardRound_6 ?_
  refine sn_cV1v C vX5_needListener lX5_74 rfl (by decide) rfl rfl dX5_heardRound_7 (Nat.le_of_ble_eq_true rfl) (c_X5_needListener hl hn hz hy hyl) (by decide) (by decide) (by decide) ?_
  refine sw_aload_0 C dX5_heardRound_10 ?_
  refine sw_getR C (o' := 25) fX5_10 rfl (by decide) rfl rfl (by decide) dX5_heardRound_11 ?_
  refine sw_getR C (o' := 32) fX5_120 rfl (by decide) rfl rfl (by decide) dX5_heardRound_14 ?_
  refine sw_iload_1 C dX5_heardRound_17 ?_
  refine sn_aald C (o' := (33 + 2 * x)) rfl (by decide) (by decide) (by omega) (by decide) (zP32 (by omega)) (by omega) dX5_heardRound_18 ?_
  refine sn_cV0r C vX2_aware lX5_142 (zRu0 (by omega)).1 (zRu0 (by omega)).2.1 rfl rfl dX5_heardRound_19 (Nat.le_of_ble_eq_true rfl) (c_X2_aware hl (zRu0 (by omega))) (by decide) (by decide) (by decide) ?_
  refine sw_iload_2 C dX5_heardRound_22 ?_
  refine sn_cS2r C vX5_contains lX5_136 dX5_heardRound_23 (Nat.le_of_ble_eq_true rfl) (c_X5_contains hl (by omega)) (by decide) (by decide) (by decide) ?_
  refine sn_if_neB C 39 dX5_heardRound_26 (by decide) (fun c26 => ?_) (fun c26 => ?_)
  · refine sw_aload_0 C dX5_heardRound_39 ?_
    refine sw_getR C (o' := 25) fX5_10 rfl (by decide) rfl rfl (by decide) dX5_heardRound_40 ?_
    refine sw_getR C (o' := 32) fX5_120 rfl (by decide) rfl rfl (by decide) dX5_heardRound_43 ?_
    refine sw_iload_1 C dX5_heardRound_46 ?_
    refine sn_aald C (o' := (33 + 2 * x)) rfl (by decide) (by decide) (by omega) (by decide) (zP32 (by omega)) (by omega) dX5_heardRound_47 ?_
    refine sw_getR C (o' := (33 + 2 * x + 1)) fX5_152 (zRu0 (by omega)).1 (zRu0 (by omega)).2.1 rfl (zRu0 (by omega)).2.2.1 (zRu0 (by omega)).2.2.2.1 dX5_heardRound_48 ?_
    refine sw_iload_2 C dX5_heardRound_51 ?_
    refine sn_iald C (zRu0 (by omega)).2.2.2.2.1 (zRu0 (by omega)).2.2.2.2.2 (by omega) (by decide) dX5_heardRound_52 ?_
    exact sn_iret C rfl hF dX5_heardRound_53 (by decide) (by decide) (by first | rfl | (simp [*]; done)) rfl rfl rfl
  · rw [ha] at c26; cases c26

set_option maxRecDepth 100000 in
set_option maxHeartbeats 4000000 in
theorem t1_X5_heardRound {l : Launch} (hl : l.stackTraces = false) {G : zG} {S : zS} {J : Int64} {E : UInt64} {n t : Nat} (hw : zNow S n t) {x : Nat} (hx : x < 2 ^ 32) (hxt : ¬ x < t) {y : Nat} (hy : y < 2 ^ 32) : nCT l G mX5_heardRound 6 1 6 [.ref 0, zi x, zi y] S J E "java/lang/IndexOutOfBoundsException" S J E := by
  refine nCT.of hl (by decide) rfl (Nat.le_of_ble_eq_true rfl) (ls := [some (.ref 0), some (zi x), some (zi y)]) rfl (fun X C hF hX => ?_)
  subst hX
  obtain ⟨hn, hz, ht, ht4, hnb, hhv, hdb, hru⟩ := id hw
  refine sw_aload_0 C dX5_heardRound_0 ?_
  refine sw_iload_1 C dX5_heardRound_1 ?_
  exact sn_cV1T C vX5_needRumour kX5_117 rfl (by decide) rfl rfl dX5_heardRound_2 (Nat.le_of_ble_eq_true rfl) (t_X5_needRumour hl ht ht4 hx hxt) (by decide) (by decide) (by decide) hF

set_option maxRecDepth 100000 in
set_option maxHeartbeats 4000000 in
theorem t2_X5_heardRound {l : Launch} (hl : l.stackTraces = false) {G : zG} {S : zS} {J : Int64} {E : UInt64} {n t : Nat} (hw : zNow S n t) {x : Nat} (hx : x < 2 ^ 32) (hxt : x < t) {y : Nat} (hy : y < 2 ^ 32) (hyl : ¬ y < n) : nCT l G mX5_heardRound 6 1 6 [.ref 0, zi x, zi y] S J E "java/lang/IndexOutOfBoundsException" S J E := by
  refine nCT.of hl (by decide) rfl (Nat.le_of_ble_eq_true rfl) (ls := [some (.ref 0), some (zi x), some (zi y)]) rfl (fun X C hF hX => ?_)
  subst hX
  obtain ⟨hn, hz, ht, ht4, hnb, hhv, hdb, hru⟩ := id hw
  refine sw_aload_0 C dX5_heardRound_0 ?_
  refine sw_iload_1 C dX5_heardRound_1 ?_
  refine sn_cV1v C vX5_needRumour lX5_117 rfl (by decide) rfl rfl dX5_heardRound_2 (Nat.le_of_ble_eq_true rfl) (c_X5_needRumour hl ht ht4 hx hxt) (by decide) (by decide) (by decide) ?_
  refine sw_aload_0 C dX5_heardRound_5 ?_
  refine sw_iload_2 C dX5_heardRound_6 ?_
  exact sn_cV1T C vX5_needListener kX5_74 rfl (by decide) rfl rfl dX5_heardRound_7 (Nat.le_of_ble_eq_true rfl) (t_X5_needListener hl hn hz hy hyl) (by decide) (by decide) (by decide) hF

set_option maxRecDepth 100000 in
set_option maxHeartbeats 4000000 in
theorem t3_X5_heardRound {l : Launch} (hl : l.stackTraces = false) {G : zG} {S : zS} {J : Int64} {E : UInt64} {n t : Nat} (hw : zNow S n t) {x : Nat} (hx : x < 2 ^ 32) (hxt : x < t) {y : Nat} (hy : y < 2 ^ 32) (hyl : y < n) (ha : (S (33 + 2 * x) 3 ||| S (33 + 2 * x) 4).testBit y = false) : nCT l G mX5_heardRound 6 1 6 [.ref 0, zi x, zi y] S J E "java/util/NoSuchElementException" S J E := by
  refine nCT.of hl (by decide) rfl (Nat.le_of_ble_eq_true rfl) (ls := [some (.ref 0), some (zi x), some (zi y)]) rfl (fun X C hF hX => ?_)
  subst hX
  obtain ⟨hn, hz, ht, ht4, hnb, hhv, hdb, hru⟩ := id hw
  refine sw_aload_0 C dX5_heardRound_0 ?_
  refine sw_iload_1 C dX5_heardRound_1 ?_
  refine sn_cV1v C vX5_needRumour lX5_117 rfl (by decide) rfl rfl dX5_heardRound_2 (Nat.le_of_ble_eq_true rfl) (c_X5_needRumour hl ht ht4 hx hxt) (by decide) (by decide) (by decide) ?_
  refine sw_aload_0 C dX5_heardRound_5 ?_
  refine sw_iload_2 C dX5_heardRound_6 ?_
  refine sn_cV1v C vX5_needListener lX5_74 rfl (by decide) rfl rfl dX5_heardRound_7 (Nat.le_of_ble_eq_true rfl) (c_X5_needListener hl hn hz hy hyl) (by decide) (by decide) (by decide) ?_
  refine sw_aload_0 C dX5_heardRound_10 ?_
  refine sw_getR C (o' := 25) fX5_10 rfl (by decide) rfl rfl (by decide) dX5_heardRound_11 ?_
  refine sw_getR C (o' := 32) fX5_120 rfl (by decide) rfl rfl (by decide) dX5_heardRound_14 ?_
  refine sw_iload_1 C dX5_heardRound_17 ?_
  refine sn_aald C (o' := (33 + 2 * x)) rfl (by decide) (by decide) (by omega) (by decide) (zP32 (by omega)) (by omega) dX5_heardRound_18 ?_
  refine sn_cV0r C vX2_aware lX5_142 (zRu0 (by omega)).1 (zRu0 (by omega)).2.1 rfl rfl dX5_heardRound_19 (Nat.le_of_ble_eq_true rfl) (c_X2_aware hl (zRu0 (by omega))) (by decide) (by decide) (by decide) ?_
  refine sw_iload_2 C dX5_heardRound_22 ?_
  refine sn_cS2r C vX5_contains lX5_136 dX5_heardRound_23 (Nat.le_of_ble_eq_true rfl) (c_X5_contains hl (by omega)) (by decide) (by decide) (by decide) ?_
  refine sn_if_neB C 39 dX5_heardRound_26 (by decide) (fun c26 => ?_) (fun c26 => ?_)
  · refine sw_aload_0 C dX5_heardRound_39 ?_
    refine sw_getR C (o' := 25) fX5_10 rfl (by decide) rfl rfl (by decide) dX5_heardRound_40 ?_
    refine sw_getR C (o' := 32) fX5_120 rfl (by decide) rfl rfl (by decide) dX5_heardRound_43 ?_
    refine sw_iload_1 C dX5_heardRound_46 ?_
    refine sn_aald C (o' := (33 + 2 * x)) rfl (by decide) (by decide) (by omega) (by decide) (zP32 (by omega)) (by omega) dX5_heardRound_47 ?_
    refine sw_getR C (o' := (33 + 2 * x + 1)) fX5_152 (zRu0 (by omega)).1 (zRu0 (by omega)).2.1 rfl (zRu0 (by omega)).2.2.1 (zRu0 (by omega)).2.2.2.1 dX5_heardRound_48 ?_
    refine sw_iload_2 C dX5_heardRound_51 ?_
    refine sn_iald C (zRu0 (by omega)).2.2.2.2.1 (zRu0 (by omega)).2.2.2.2.2 (by omega) (by decide) dX5_heardRound_52 ?_
    rw [ha] at c26; cases c26
  · exact sw_throwN C (text := "the listener is unaware of the rumour") qX5_145 (by decide +kernel) hF dX5_heardRound_29 dX5_heardRound_32 dX5_heardRound_33 dX5_heardRound_35 dX5_heardRound_38 (Nat.le_of_ble_eq_true rfl) (by decide) (by decide)

set_option maxRecDepth 100000 in
set_option maxHeartbeats 4000000 in
theorem c_X5_countedHive {l : Launch} (hl : l.stackTraces = false) {G : zG} {S : zS} {J : Int64} {E : UInt64} {n t : Nat} (hw : zNow S n t) {x : Nat} (hx : x < 2 ^ 32) (hxt : x < t) (h0 : ¬ S (33 + 2 * x) 3 = 0) : nCR l G mX5_countedHive 6 0 0 [.ref 0, zi x] S J E (some (zi (zMost S n (S (33 + 2 * x) 3)).1)) S J E := by
  refine nCR.of hl (by decide) rfl (Nat.le_of_ble_eq_true rfl) (ls := [some (.ref 0), some (zi x)]) rfl (fun X C hF hX => ?_)
  subst hX
  obtain ⟨hn, hz, ht, ht4, hnb, hhv, hdb, hru⟩ := id hw
  obtain ⟨f1, f2, f3, f4⟩ := hru x (by omega)
  refine sw_aload_0 C dX5_countedHive_0 ?_
  refine sw_iload_1 C dX5_countedHive_1 ?_
  refine sn_cV1v C vX5_needRumour lX5_117 rfl (by decide) rfl rfl dX5_countedHive_2 (Nat.le_of_ble_eq_true rfl) (c_X5_needRumour hl ht ht4 hx hxt) (by decide) (by decide) (by decide) ?_
  refine sw_aload_0 C dX5_countedHive_5 ?_
  refine sw_getR C (o' := 25) fX5_10 rfl (by decide) rfl rfl (by decide) dX5_countedHive_6 ?_
  refine sw_getR C (o' := 32) fX5_120 rfl (by decide) rfl rfl (by decide) dX5_countedHive_9 ?_
  refine sw_iload_1 C dX5_countedHive_12 ?_
  refine sn_aald C (o' := (33 + 2 * x)) rfl (by decide) (by decide) (by omega) (by decide) (zP32 (by omega)) (by omega) dX5_countedHive_13 ?_
  refine sn_getI C fX5_133 (zRu0 (by omega)).1 (zRu0 (by omega)).2.1 rfl dX5_countedHive_14 ?_
  refine sn_if_ne C 30 (by omega) dX5_countedHive_17 (by decide) (fun c17 => ?_) (fun c17 => ?_)
  · refine sw_aload_0 C dX5_countedHive_30 ?_
    refine sw_getR C (o' := 25) fX5_10 rfl (by decide) rfl rfl (by decide) dX5_countedHive_31 ?_
    refine sw_aload_0 C dX5_countedHive_34 ?_
    refine sw_getR C (o' := 25) fX5_10 rfl (by decide) rfl rfl (by decide) dX5_countedHive_35 ?_
    refine sw_getR C (o' := 32) fX5_120 rfl (by decide) rfl rfl (by decide) dX5_countedHive_38 ?_
    refine sw_iload_1 C dX5_countedHive_41 ?_
    refine sn_aald C (o' := (33 + 2 * x)) rfl (by decide) (by decide) (by omega) (by decide) (zP32 (by omega)) (by omega) dX5_countedHive_42 ?_
    refine sn_getI C fX5_133 (zRu0 (by omega)).1 (zRu0 (by omega)).2.1 rfl dX5_countedHive_43 ?_
    refine sn_cV1r C vX3_hiveWithMost lX5_157 rfl (by decide) rfl rfl dX5_countedHive_46 (Nat.le_of_ble_eq_true rfl) (c_X3_hiveWithMost hl hn hz hhv f3) (by decide) (by decide) (by decide) ?_
    exact sn_iret C rfl hF dX5_countedHive_49 (by decide) (by decide) (by first | rfl | (simp [*]; done)) rfl rfl rfl
  · exact absurd c17 h0

set_option maxRecDepth 100000 in
set_option maxHeartbeats 4000000 in
theorem t1_X5_countedHive {l : Launch} (hl : l.stackTraces = false) {G : zG} {S : zS} {J : Int64} {E : UInt64} {n t : Nat} (hw : zNow S n t) {x : Nat} (hx : x < 2 ^ 32) (hxt : ¬ x < t) : nCT l G mX5_countedHive 6 1 6 [.ref 0, zi x] S J E "java/lang/IndexOutOfBoundsException" S J E := by
  refine nCT.of hl (by decide) rfl (Nat.le_of_ble_eq_true rfl) (ls := [some (.ref 0), some (zi x)]) rfl (fun X C hF hX => ?_)
  subst hX
  obtain ⟨hn, hz, ht, ht4, hnb, hhv, hdb, hru⟩ := id hw
  refine sw_aload_0 C dX5_countedHive_0 ?_
  refine sw_iload_1 C dX5_countedHive_1 ?_
  exact sn_cV1T C vX5_needRumour kX5_117 rfl (by decide) rfl rfl dX5_countedHive_2 (Nat.le_of_ble_eq_true rfl) (t_X5_needRumour hl ht ht4 hx hxt) (by decide) (by decide) (by decide) hF

set_option maxRecDepth 100000 in
set_option maxHeartbeats 4000000 in
theorem t2_X5_countedHive {l : Launch} (hl : l.stackTraces = false) {G : zG} {S : zS} {J : Int64} {E : UInt64} {n t : Nat} (hw : zNow S n t) {x : Nat} (hx : x < 2 ^ 32) (hxt : x < t) (h0 : S (33 + 2 * x) 3 = 0) : nCT l G mX5_countedHive 6 1 6 [.ref 0, zi x] S J E "java/util/NoSuchElementException" S J E := by
  refine nCT.of hl (by decide) rfl (Nat.le_of_ble_eq_true rfl) (ls := [some (.ref 0), some (zi x)]) rfl (fun X C hF hX => ?_)
  subst hX
  obtain ⟨hn, hz, ht, ht4, hnb, hhv, hdb, hru⟩ := id hw
  obtain ⟨f1, f2, f3, f4⟩ := hru x (by omega)
  refine sw_aload_0 C dX5_countedHive_0 ?_
  refine sw_iload_1 C dX5_countedHive_1 ?_
  refine sn_cV1v C vX5_needRumour lX5_117 rfl (by decide) rfl rfl dX5_countedHive_2 (Nat.le_of_ble_eq_true rfl) (c_X5_needRumour hl ht ht4 hx hxt) (by decide) (by decide) (by decide) ?_
  refine sw_aload_0 C dX5_countedHive_5 ?_
  refine sw_getR C (o' := 25) fX5_10 rfl (by decide) rfl rfl (by decide) dX5_countedHive_6 ?_
  refine sw_getR C (o' := 32) fX5_120 rfl (by decide) rfl rfl (by decide) dX5_countedHive_9 ?_
  refine sw_iload_1 C dX5_countedHive_12 ?_
  refine sn_aald C (o' := (33 + 2 * x)) rfl (by decide) (by decide) (by omega) (by decide) (zP32 (by omega)) (by omega) dX5_countedHive_13 ?_
  refine sn_getI C fX5_133 (zRu0 (by omega)).1 (zRu0 (by omega)).2.1 rfl dX5_countedHive_14 ?_
  refine sn_if_ne C 30 (by omega) dX5_countedHive_17 (by decide) (fun c17 => ?_) (fun c17 => ?_)
  · refine sw_aload_0 C dX5_countedHive_30 ?_
    refine sw_getR C (o' := 25) fX5_10 rfl (by decide) rfl rfl (by decide) dX5_countedHive_31 ?_
    refine sw_aload_0 C dX5_countedHive_34 ?_
    refine sw_getR C (o' := 25) fX5_10 rfl (by decide) rfl rfl (by decide) dX5_countedHive_35 ?_
    refine sw_getR C (o' := 32) fX5_120 rfl (by decide) rfl rfl (by decide) dX5_countedHive_38 ?_
    refine sw_iload_1 C dX5_countedHive_41 ?_
    refine sn_aald C (o' := (33 + 2 * x)) rfl (by decide) (by decide) (by omega) (by decide) (zP32 (by omega)) (by omega) dX5_countedHive_42 ?_
    refine sn_getI C fX5_133 (zRu0 (by omega)).1 (zRu0 (by omega)).2.1 rfl dX5_countedHive_43 ?_
    refine sn_cV1r C vX3_hiveWithMost lX5_157 rfl (by decide) rfl rfl dX5_countedHive_46 (Nat.le_of_ble_eq_true rfl) (c_X3_hiveWithMost hl hn hz hhv f3) (by decide) (by decide) (by decide) ?_
    exact absurd h0 c17
  · exact sw_throwN C (text := "the rumour has no spreaders") qX5_145 (by decide +kernel) hF dX5_countedHive_20 dX5_countedHive_23 dX5_countedHive_24 dX5_countedHive_26 dX5_countedHive_29 (Nat.le_of_ble_eq_true rfl) (by decide) (by decide)

set_option maxRecDepth 100000 in
set_option maxHeartbeats 4000000 in
theorem c_X5_spreadersInHive {l : Launch} (hl : l.stackTraces = false) {G : zG} {S : zS} {J : Int64} {E : UInt64} {n t : Nat} (hw : zNow S n t) {x : Nat} (hx : x < 2 ^ 32) (hxt : x < t) {y : Nat} (hy : y < 2 ^ 32) (h4 : y < 4) : nCR l G mX5_spreadersInHive 6 0 0 [.ref 0, zi x, zi y] S J E (some (zi (zpop (S (33 + 2 * x) 3 &&& zMem S n y)))) S J E := by
  refine nCR.of hl (by decide) rfl (Nat.le_of_ble_eq_true rfl) (ls := [some (.ref 0), some (zi x), some (zi y)]) rfl (fun X C hF hX => ?_)
  subst hX
  obtain ⟨hn, hz, ht, ht4, hnb, hhv, hdb, hru⟩ := id hw
  obtain ⟨f1, f2, f3, f4⟩ := hru x (by omega)
  refine sw_aload_0 C dX5_spreadersInHive_0 ?_
  refine sw_iload_1 C dX5_spreadersInHive_1 ?_
  refine sn_cV1v C vX5_needRumour lX5_117 rfl (by decide) rfl rfl dX5_spreadersInHive_2 (Nat.le_of_ble_eq_true rfl) (c_X5_needRumour hl ht ht4 hx hxt) (by decide) (by decide) (by decide) ?_
  refine sw_iload_2 C dX5_spreadersInHive_5 ?_
  refine sn_cS1v C vX5_needHive lX5_101 dX5_spreadersInHive_6 (Nat.le_of_ble_eq_true rfl) (c_X5_needHive hl hy h4) (by decide) (by decide) (by decide) ?_
  refine sw_aload_0 C dX5_spreadersInHive_9 ?_
  refine sw_getR C (o' := 25) fX5_10 rfl (by decide) rfl rfl (by decide) dX5_spreadersInHive_10 ?_
  refine sw_getR C (o' := 32) fX5_120 rfl (by decide) rfl rfl (by decide) dX5_spreadersInHive_13 ?_
  refine sw_iload_1 C dX5_spreadersInHive_16 ?_
  refine sn_aald C (o' := (33 + 2 * x)) rfl (by decide) (by decide) (by omega) (by decide) (zP32 (by omega)) (by omega) dX5_spreadersInHive_17 ?_
  refine sn_getI C fX5_133 (zRu0 (by omega)).1 (zRu0 (by omega)).2.1 rfl dX5_spreadersInHive_18 ?_
  refine sw_aload_0 C dX5_spreadersInHive_21 ?_
  refine sw_getR C (o' := 25) fX5_10 rfl (by decide) rfl rfl (by decide) dX5_spreadersInHive_22 ?_
  refine sw_iload_2 C dX5_spreadersInHive_25 ?_
  refine sn_cV1r C vX3_membersOf lX5_104 rfl (by decide) rfl rfl dX5_spreadersInHive_26 (Nat.le_of_ble_eq_true rfl) (c_X3_membersOf hl hn hz hhv (by omega)) (by decide) (by decide) (by decide) ?_
  refine sn_iand C dX5_spreadersInHive_29 ?_
  refine sn_cS1r C vJ6_bitCount_0f7a4 lX5_92 dX5_spreadersInHive_30 (Nat.le_of_ble_eq_true rfl) (c_J6_bitCount_0f7a4 hl (zAnd_lt f3)) (by decide) (by decide) (by decide) ?_
  exact sn_iret C rfl hF dX5_spreadersInHive_33 (by decide) (by decide) (by first | rfl | (simp [*]; done)) rfl rfl rfl

set_option maxRecDepth 100000 in
set_option maxHeartbeats 4000000 in
theorem t1_X5_spreadersInHive {l : Launch} (hl : l.stackTraces = false) {G : zG} {S : zS} {J : Int64} {E : UInt64} {n t : Nat} (hw : zNow S n t) {x : Nat} (hx : x < 2 ^ 32) (hxt : ¬ x < t) {y : Nat} (hy : y < 2 ^ 32) : nCT l G mX5_spreadersInHive 6 1 6 [.ref 0, zi x, zi y] S J E "java/lang/IndexOutOfBoundsException" S J E := by
  refine nCT.of hl (by decide) rfl (Nat.le_of_ble_eq_true rfl) (ls := [some (.ref 0), some (zi x), some (zi y)]) rfl (fun X C hF hX => ?_)
  subst hX
  obtain ⟨hn, hz, ht, ht4, hnb, hhv, hdb, hru⟩ := id hw
  refine sw_aload_0 C dX5_spreadersInHive_0 ?_
  refine sw_iload_1 C dX5_spreadersInHive_1 ?_
  exact sn_cV1T C vX5_needRumour kX5_117 rfl (by decide) rfl rfl dX5_spreadersInHive_2 (Nat.le_of_ble_eq_true rfl) (t_X5_needRumour hl ht ht4 hx hxt) (by decide) (by decide) (by decide) hF

set_option maxRecDepth 100000 in
set_option maxHeartbeats 4000000 in
theorem t2_X5_spreadersInHive {l : Launch} (hl : l.stackTraces = false) {G : zG} {S : zS} {J : Int64} {E : UInt64} {n t : Nat} (hw : zNow S n t) {x : Nat} (hx : x < 2 ^ 32) (hxt : x < t) {y : Nat} (hy : y < 2 ^ 32) (h4 : ¬ y < 4) : nCT l G mX5_spreadersInHive 6 1 6 [.ref 0, zi x, zi y] S J E "java/lang/IndexOutOfBoundsException" S J E := by
  refine nCT.of hl (by decide) rfl (Nat.le_of_ble_eq_true rfl) (ls := [some (.ref 0), some (zi x), some (zi y)]) rfl (fun X C hF hX => ?_)
  subst hX
  obtain ⟨hn, hz, ht, ht4, hnb, hhv, hdb, hru⟩ := id hw
  refine sw_aload_0 C dX5_spreadersInHive_0 ?_
  refine sw_iload_1 C dX5_spreadersInHive_1 ?_
  refine sn_cV1v C vX5_needRumour lX5_117 rfl (by decide) rfl rfl dX5_spreadersInHive_2 (Nat.le_of_ble_eq_true rfl) (c_X5_needRumour hl ht ht4 hx hxt) (by decide) (by decide) (by decide) ?_
  refine sw_iload_2 C dX5_spreadersInHive_5 ?_
  exact sn_cS1T C vX5_needHive kX5_101 dX5_spreadersInHive_6 (Nat.le_of_ble_eq_true rfl) (t_X5_needHive hl hy h4) (by decide) (by decide) (by decide) hF

set_option maxRecDepth 100000 in
set_option maxHeartbeats 4000000 in
theorem c_X5_distance {l : Launch} (hl : l.stackTraces = false) {G : zG} {S : zS} {J : Int64} {E : UInt64} {n t : Nat} (hw : zNow S n t) {x : Nat} (hx : x < 2 ^ 32) (hxt : x < t) {y : Nat} (hy : y < 2 ^ 32) (hyl : y < n) (hb : zBfs S (S (33 + 2 * x) 3) n n 0 (1 * 2 ^ y) (1 * 2 ^ y) < 2 ^ 32) (h0 : ¬ zBfs S (S (33 + 2 * x) 3) n n 0 (1 * 2 ^ y) (1 * 2 ^ y) = 4294967295) : nCR l G mX5_distance 6 0 0 [.ref 0, zi x, zi y] S J E (some (zi (zBfs S (S (33 + 2 * x) 3) n n 0 (1 * 2 ^ y) (1 * 2 ^ y)))) S J E := by
  refine nCR.of hl (by decide) rfl (Nat.le_of_ble_eq_true rfl) (ls := [some (.ref 0), some (zi x), some (zi y)]) rfl (fun X C hF hX => ?_)
  subst hX
  obtain ⟨hn, hz, ht, ht4, hnb, hhv, hdb, hru⟩ := id hw
  obtain ⟨f1, f2, f3, f4⟩ := hru x (by omega)
  refine sw_aload_0 C dX5_distance_0 ?_
  refine sw_iload_1 C dX5_distance_1 ?_
  refine sn_cV1v C vX5_needRumour lX5_117 rfl (by decide) rfl rfl dX5_distance_2 (Nat.le_of_ble_eq_true rfl) (c_X5_needRumour hl ht ht4 hx hxt) (by decide) (by decide) (by decide) ?_
  refine sw_aload_0 C dX5_distance_5 ?_
  refine sw_iload_2 C dX5_distance_6 ?_
  refine sn_cV1v C vX5_needListener lX5_74 rfl (by decide) rfl rfl dX5_distance_7 (Nat.le_of_ble_eq_true rfl) (c_X5_needListener hl hn hz hy hyl) (by decide) (by decide) (by decide) ?_
  refine sw_aload_0 C dX5_distance_10 ?_
  refine sw_getR C (o' := 25) fX5_10 rfl (by decide) rfl rfl (by decide) dX5_distance_11 ?_
  refine sw_getR C (o' := 26) fX5_65 rfl (by decide) rfl rfl (by decide) dX5_distance_14 ?_
  refine sw_iload_2 C dX5_distance_17 ?_
  refine sw_aload_0 C dX5_distance_18 ?_
  refine sw_getR C (o' := 25) fX5_10 rfl (by decide) rfl rfl (by decide) dX5_distance_19 ?_
  refine sw_getR C (o' := 32) fX5_120 rfl (by decide) rfl rfl (by decide) dX5_distance_22 ?_
  refine sw_iload_1 C dX5_distance_25 ?_
  refine sn_aald C (o' := (33 + 2 * x)) rfl (by decide) (by decide) (by omega) (by decide) (zP32 (by omega)) (by omega) dX5_distance_26 ?_
  refine sn_getI C fX5_133 (zRu0 (by omega)).1 (zRu0 (by omega)).2.1 rfl dX5_distance_27 ?_
  refine sn_cV2r C vX1_stepsBySearch lX5_160 rfl (by decide) rfl rfl dX5_distance_30 (Nat.le_of_ble_eq_true rfl) (c_X1_stepsBySearch hl hn hz (by omega) f3) (by decide) (by decide) (by decide) ?_
  refine sn_cS1r C vX5_found lX5_164 dX5_distance_33 (Nat.le_of_ble_eq_true rfl) (c_X5_found hl hb h0) (by decide) (by decide) (by decide) ?_
  exact sn_iret C rfl hF dX5_distance_36 (by decide) (by decide) (by first | rfl | (simp [*]; done)) rfl rfl rfl

set_option maxRecDepth 100000 in
set_option maxHeartbeats 4000000 in
theorem t1_X5_distance {l : Launch} (hl : l.stackTraces = false) {G : zG} {S : zS} {J : Int64} {E : UInt64} {n t : Nat} (hw : zNow S n t) {x : Nat} (hx : x < 2 ^ 32) (hxt : ¬ x < t) {y : Nat} (hy : y < 2 ^ 32) : nCT l G mX5_distance 6 1 6 [.ref 0, zi x, zi y] S J E "java/lang/IndexOutOfBoundsException" S J E := by
  refine nCT.of hl (by decide) rfl (Nat.le_of_ble_eq_true rfl) (ls := [some (.ref 0), some (zi x), some (zi y)]) rfl (fun X C hF hX => ?_)
  subst hX
  obtain ⟨hn, hz, ht, ht4, hnb, hhv, hdb, hru⟩ := id hw
  refine sw_aload_0 C dX5_distance_0 ?_
  refine sw_iload_1 C dX5_distance_1 ?_
  exact sn_cV1T C vX5_needRumour kX5_117 rfl (by decide) rfl rfl dX5_distance_2 (Nat.le_of_ble_eq_true rfl) (t_X5_needRumour hl ht ht4 hx hxt) (by decide) (by decide) (by decide) hF

set_option maxRecDepth 100000 in
set_option maxHeartbeats 4000000 in
theorem t2_X5_distance {l : Launch} (hl : l.stackTraces = false) {G : zG} {S : zS} {J : Int64} {E : UInt64} {n t : Nat} (hw : zNow S n t) {x : Nat} (hx : x < 2 ^ 32) (hxt : x < t) {y : Nat} (hy : y < 2 ^ 32) (hyl : ¬ y < n) : nCT l G mX5_distance 6 1 6 [.ref 0, zi x, zi y] S J E "java/lang/IndexOutOfBoundsException" S J E := by
  refine nCT.of hl (by decide) rfl (Nat.le_of_ble_eq_true rfl) (ls := [some (.ref 0), some (zi x), some (zi y)]) rfl (fun X C hF hX => ?_)
  subst hX
  obtain ⟨hn, hz, ht, ht4, hnb, hhv, hdb, hru⟩ := id hw
  refine sw_aload_0 C dX5_distance_0 ?_
  refine sw_iload_1 C dX5_distance_1 ?_
  refine sn_cV1v C vX5_needRumour lX5_117 rfl (by decide) rfl rfl dX5_distance_2 (Nat.le_of_ble_eq_true rfl) (c_X5_needRumour hl ht ht4 hx hxt) (by decide) (by decide) (by decide) ?_
  refine sw_aload_0 C dX5_distance_5 ?_
  refine sw_iload_2 C dX5_distance_6 ?_
  exact sn_cV1T C vX5_needListener kX5_74 rfl (by decide) rfl rfl dX5_distance_7 (Nat.le_of_ble_eq_true rfl) (t_X5_needListener hl hn hz hy hyl) (by decide) (by decide) (by decide) hF

set_option maxRecDepth 100000 in
set_option maxHeartbeats 4000000 in
theorem t3_X5_distance {l : Launch} (hl : l.stackTraces = false) {G : zG} {S : zS} {J : Int64} {E : UInt64} {n t : Nat} (hw : zNow S n t) {x : Nat} (hx : x < 2 ^ 32) (hxt : x < t) {y : Nat} (hy : y < 2 ^ 32) (hyl : y < n) (h0 : zBfs S (S (33 + 2 * x) 3) n n 0 (1 * 2 ^ y) (1 * 2 ^ y) = 4294967295) : nCT l G mX5_distance 6 1 6 [.ref 0, zi x, zi y] S J E "java/util/NoSuchElementException" S J E := by
  refine nCT.of hl (by decide) rfl (Nat.le_of_ble_eq_true rfl) (ls := [some (.ref 0), some (zi x), some (zi y)]) rfl (fun X C hF hX => ?_)
  subst hX
  obtain ⟨hn, hz, ht, ht4, hnb, hhv, hdb, hru⟩ := id hw
  obtain ⟨f1, f2, f3, f4⟩ := hru x (by omega)
  refine sw_aload_0 C dX5_distance_0 ?_
  refine sw_iload_1 C dX5_distance_1 ?_
  refine sn_cV1v C vX5_needRumour lX5_117 rfl (by decide) rfl rfl dX5_distance_2 (Nat.le_of_ble_eq_true rfl) (c_X5_needRumour hl ht ht4 hx hxt) (by decide) (by decide) (by decide) ?_
  refine sw_aload_0 C dX5_distance_5 ?_
  refine sw_iload_2 C dX5_distance_6 ?_
  refine sn_cV1v C vX5_needListener lX5_74 rfl (by decide) rfl rfl dX5_distance_7 (Nat.le_of_ble_eq_true rfl) (c_X5_needListener hl hn hz hy hyl) (by decide) (by decide) (by decide) ?_
  refine sw_aload_0 C dX5_distance_10 ?_
  refine sw_getR C (o' := 25) fX5_10 rfl (by decide) rfl rfl (by decide) dX5_distance_11 ?_
  refine sw_getR C (o' := 26) fX5_65 rfl (by decide) rfl rfl (by decide) dX5_distance_14 ?_
  refine sw_iload_2 C dX5_distance_17 ?_
  refine sw_aload_0 C dX5_distance_18 ?_
  refine sw_getR C (o' := 25) fX5_10 rfl (by decide) rfl rfl (by decide) dX5_distance_19 ?_
  refine sw_getR C (o' := 32) fX5_120 rfl (by decide) rfl rfl (by decide) dX5_distance_22 ?_
  refine sw_iload_1 C dX5_distance_25 ?_
  refine sn_aald C (o' := (33 + 2 * x)) rfl (by decide) (by decide) (by omega) (by decide) (zP32 (by omega)) (by omega) dX5_distance_26 ?_
  refine sn_getI C fX5_133 (zRu0 (by omega)).1 (zRu0 (by omega)).2.1 rfl dX5_distance_27 ?_
  refine sn_cV2r C vX1_stepsBySearch lX5_160 rfl (by decide) rfl rfl dX5_distance_30 (Nat.le_of_ble_eq_true rfl) (c_X1_stepsBySearch hl hn hz (by omega) f3) (by decide) (by decide) (by decide) ?_
  exact sn_cS1T C vX5_found kX5_164 dX5_distance_33 (Nat.le_of_ble_eq_true rfl) (t_X5_found hl h0) (by decide) (by decide) (by decide) hF

set_option maxRecDepth 100000 in
set_option maxHeartbeats 4000000 in
theorem c_X5_distanceByRelaxation {l : Launch} (hl : l.stackTraces = false) {G : zG} {S : zS} {J : Int64} {E : UInt64} {n t : Nat} (hw : zNow S n t) {x : Nat} (hx : x < 2 ^ 32) (hxt : x < t) {y : Nat} (hy : y < 2 ^ 32) (hyl : y < n) (hb : zRlR S n (S (33 + 2 * x) 3) y < 2 ^ 32) (h0 : ¬ zRlR S n (S (33 + 2 * x) 3) y = 4294967295) : nCR l G mX5_distanceByRelaxation 6 0 0 [.ref 0, zi x, zi y] S J E (some (zi (zRlR S n (S (33 + 2 * x) 3) y))) (zRlx S n (S (33 + 2 * x) 3)) J E := by
  refine nCR.of hl (by decide) rfl (Nat.le_of_ble_eq_true rfl) (ls := [some (.ref 0), some (zi x), some (zi y)]) rfl (fun X C hF hX => ?_)
  subst hX
  obtain ⟨hn, hz, ht, ht4, hnb, hhv, hdb, hru⟩ := id hw
  obtain ⟨f1, f2, f3, f4⟩ := hru x (by omega)
  refine sw_aload_0 C dX5_distanceByRelaxation_0 ?_
  refine sw_iload_1 C dX5_distanceByRelaxation_1 ?_
  refine sn_cV1v C vX5_needRumour lX5_117 rfl (by decide) rfl rfl dX5_distanceByRelaxation_2 (Nat.le_of_ble_eq_true rfl) (c_X5_needRumour hl ht ht4 hx hxt) (by decide) (by decide) (by decide) ?_
  refine sw_aload_0 C dX5_distanceByRelaxation_5 ?_
  refine sw_iload_2 C dX5_distanceByRelaxation_6 ?_
  refine sn_cV1v C vX5_needListener lX5_74 rfl (by decide) rfl rfl dX5_distanceByRelaxation_7 (Nat.le_of_ble_eq_true rfl) (c_X5_needListener hl hn hz hy hyl) (by decide) (by decide) (by decide) ?_
  refine sw_aload_0 C dX5_distanceByRelaxation_10 ?_
  refine sw_getR C (o' := 25) fX5_10 rfl (by decide) rfl rfl (by decide) dX5_distanceByRelaxation_11 ?_
  refine sw_getR C (o' := 26) fX5_65 rfl (by decide) rfl rfl (by decide) dX5_distanceByRelaxation_14 ?_
  refine sw_iload_2 C dX5_distanceByRelaxation_17 ?_
  refine sw_aload_0 C dX5_distanceByRelaxation_18 ?_
  refine sw_getR C (o' := 25) fX5_10 rfl (by decide) rfl rfl (by decide) dX5_distanceByRelaxation_19 ?_
  refine sw_getR C (o' := 32) fX5_120 rfl (by decide) rfl rfl (by decide) dX5_distanceByRelaxation_22 ?_
  refine sw_iload_1 C dX5_distanceByRelaxation_25 ?_
  refine sn_aald C (o' := (33 + 2 * x)) rfl (by decide) (by decide) (by omega) (by decide) (zP32 (by omega)) (by omega) dX5_distanceByRelaxation_26 ?_
  refine sn_getI C fX5_133 (zRu0 (by omega)).1 (zRu0 (by omega)).2.1 rfl dX5_distanceByRelaxation_27 ?_
  refine sn_cV2r C vX1_stepsByRelaxing lX5_167 rfl (by decide) rfl rfl dX5_distanceByRelaxation_30 (Nat.le_of_ble_eq_true rfl) (c_X1_stepsByRelaxing hl hn hz hyl f3) (by decide) (by decide) (by decide) ?_
  refine sn_cS1r C vX5_found lX5_164 dX5_distanceByRelaxation_33 (Nat.le_of_ble_eq_true rfl) (c_X5_found hl hb h0) (by decide) (by decide) (by decide) ?_
  exact sn_iret C rfl hF dX5_distanceByRelaxation_36 (by decide) (by decide) (by first | rfl | (simp [*]; done)) rfl rfl rfl

set_option maxRecDepth 100000 in
set_option maxHeartbeats 4000000 in
theorem t1_X5_distanceByRelaxation {l : Launch} (hl : l.stackTraces = false) {G : zG} {S : zS} {J : Int64} {E : UInt64} {n t : Nat} (hw : zNow S n t) {x : Nat} (hx : x < 2 ^ 32) (hxt : ¬ x < t) {y : Nat} (hy : y < 2 ^ 32) : nCT l G mX5_distanceByRelaxation 6 1 6 [.ref 0, zi x, zi y] S J E "java/lang/IndexOutOfBoundsException" S J E := by
  refine nCT.of hl (by decide) rfl (Nat.le_of_ble_eq_true rfl) (ls := [some (.ref 0), some (zi x), some (zi y)]) rfl (fun X C hF hX => ?_)
  subst hX
  obtain ⟨hn, hz, ht, ht4, hnb, hhv, hdb, hru⟩ := id hw
  refine sw_aload_0 C dX5_distanceByRelaxation_0 ?_
  refine sw_iload_1 C dX5_distanceByRelaxation_1 ?_
  exact sn_cV1T C vX5_needRumour kX5_117 rfl (by decide) rfl rfl dX5_distanceByRelaxation_2 (Nat.le_of_ble_eq_true rfl) (t_X5_needRumour hl ht ht4 hx hxt) (by decide) (by decide) (by decide) hF

set_option maxRecDepth 100000 in
set_option maxHeartbeats 4000000 in
theorem t2_X5_distanceByRelaxation {l : Launch} (hl : l.stackTraces = false) {G : zG} {S : zS} {J : Int64} {E : UInt64} {n t : Nat} (hw : zNow S n t) {x : Nat} (hx : x < 2 ^ 32) (hxt : x < t) {y : Nat} (hy : y < 2 ^ 32) (hyl : ¬ y < n) : nCT l G mX5_distanceByRelaxation 6 1 6 [.ref 0, zi x, zi y] S J E "java/lang/IndexOutOfBoundsException" S J E := by
  refine nCT.of hl (by decide) rfl (Nat.le_of_ble_eq_true rfl) (ls := [some (.ref 0), some (zi x), some (zi y)]) rfl (fun X C hF hX => ?_)
  subst hX
  obtain ⟨hn, hz, ht, ht4, hnb, hhv, hdb, hru⟩ := id hw
  refine sw_aload_0 C dX5_distanceByRelaxation_0 ?_
  refine sw_iload_1 C dX5_distanceByRelaxation_1 ?_
  refine sn_cV1v C vX5_needRumour lX5_117 rfl (by decide) rfl rfl dX5_distanceByRelaxation_2 (Nat.le_of_ble_eq_true rfl) (c_X5_needRumour hl ht ht4 hx hxt) (by decide) (by decide) (by decide) ?_
  refine sw_aload_0 C dX5_distanceByRelaxation_5 ?_
  refine sw_iload_2 C dX5_distanceByRelaxation_6 ?_
  exact sn_cV1T C vX5_needListener kX5_74 rfl (by decide) rfl rfl dX5_distanceByRelaxation_7 (Nat.le_of_ble_eq_true rfl) (t_X5_needListener hl hn hz hy hyl) (by decide) (by decide) (by decide) hF

set_option maxRecDepth 100000 in
set_option maxHeartbeats 4000000 in
theorem t3_X5_distanceByRelaxation {l : Launch} (hl : l.stackTraces = false) {G : zG} {S : zS} {J : Int64} {E : UInt64} {n t : Nat} (hw : zNow S n t) {x : Nat} (hx : x < 2 ^ 32) (hxt : x < t) {y : Nat} (hy : y < 2 ^ 32) (hyl : y < n) (h0 : zRlR S n (S (33 + 2 * x) 3) y = 4294967295) : nCT l G mX5_distanceByRelaxation 6 1 6 [.ref 0, zi x, zi y] S J E "java/util/NoSuchElementException" (zRlx S n (S (33 + 2 * x) 3)) J E := by
  refine nCT.of hl (by decide) rfl (Nat.le_of_ble_eq_true rfl) (ls := [some (.ref 0), some (zi x), some (zi y)]) rfl (fun X C hF hX => ?_)
  subst hX
  obtain ⟨hn, hz, ht, ht4, hnb, hhv, hdb, hru⟩ := id hw
  obtain ⟨f1, f2, f3, f4⟩ := hru x (by omega)
  refine sw_aload_0 C dX5_distanceByRelaxation_0 ?_
  refine sw_iload_1 C dX5_distanceByRelaxation_1 ?_
  refine sn_cV1v C vX5_needRumour lX5_117 rfl (by decide) rfl rfl dX5_distanceByRelaxation_2 (Nat.le_of_ble_eq_true rfl) (c_X5_needRumour hl ht ht4 hx hxt) (by decide) (by decide) (by decide) ?_
  refine sw_aload_0 C dX5_distanceByRelaxation_5 ?_
  refine sw_iload_2 C dX5_distanceByRelaxation_6 ?_
  refine sn_cV1v C vX5_needListener lX5_74 rfl (by decide) rfl rfl dX5_distanceByRelaxation_7 (Nat.le_of_ble_eq_true rfl) (c_X5_needListener hl hn hz hy hyl) (by decide) (by decide) (by decide) ?_
  refine sw_aload_0 C dX5_distanceByRelaxation_10 ?_
  refine sw_getR C (o' := 25) fX5_10 rfl (by decide) rfl rfl (by decide) dX5_distanceByRelaxation_11 ?_
  refine sw_getR C (o' := 26) fX5_65 rfl (by decide) rfl rfl (by decide) dX5_distanceByRelaxation_14 ?_
  refine sw_iload_2 C dX5_distanceByRelaxation_17 ?_
  refine sw_aload_0 C dX5_distanceByRelaxation_18 ?_
  refine sw_getR C (o' := 25) fX5_10 rfl (by decide) rfl rfl (by decide) dX5_distanceByRelaxation_19 ?_
  refine sw_getR C (o' := 32) fX5_120 rfl (by decide) rfl rfl (by decide) dX5_distanceByRelaxation_22 ?_
  refine sw_iload_1 C dX5_distanceByRelaxation_25 ?_
  refine sn_aald C (o' := (33 + 2 * x)) rfl (by decide) (by decide) (by omega) (by decide) (zP32 (by omega)) (by omega) dX5_distanceByRelaxation_26 ?_
  refine sn_getI C fX5_133 (zRu0 (by omega)).1 (zRu0 (by omega)).2.1 rfl dX5_distanceByRelaxation_27 ?_
  refine sn_cV2r C vX1_stepsByRelaxing lX5_167 rfl (by decide) rfl rfl dX5_distanceByRelaxation_30 (Nat.le_of_ble_eq_true rfl) (c_X1_stepsByRelaxing hl hn hz hyl f3) (by decide) (by decide) (by decide) ?_
  exact sn_cS1T C vX5_found kX5_164 dX5_distanceByRelaxation_33 (Nat.le_of_ble_eq_true rfl) (t_X5_found hl h0) (by decide) (by decide) (by decide) hF

set_option maxRecDepth 100000 in
set_option maxHeartbeats 4000000 in
theorem c_X5_nextSpreaders {l : Launch} (hl : l.stackTraces = false) {G : zG} {S : zS} {J : Int64} {E : UInt64} {n t : Nat} (hw : zNow S n t) {x : Nat} (hx : x < 2 ^ 32) (hxt : x < t) : nCR l G mX5_nextSpreaders 6 0 0 [.ref 0, zi x] S J E (some (zi (zCome2 S (33 + 2 * x) n))) S J E := by
  refine nCR.of hl (by decide) rfl (Nat.le_of_ble_eq_true rfl) (ls := [some (.ref 0), some (zi x)]) rfl (fun X C hF hX => ?_)
  subst hX
  obtain ⟨hn, hz, ht, ht4, hnb, hhv, hdb, hru⟩ := id hw
  refine sw_aload_0 C dX5_nextSpreaders_0 ?_
  refine sw_iload_1 C dX5_nextSpreaders_1 ?_
  refine sn_cV1v C vX5_needRumour lX5_117 rfl (by decide) rfl rfl dX5_nextSpreaders_2 (Nat.le_of_ble_eq_true rfl) (c_X5_needRumour hl ht ht4 hx hxt) (by decide) (by decide) (by decide) ?_
  refine sw_aload_0 C dX5_nextSpreaders_5 ?_
  refine sw_getR C (o' := 25) fX5_10 rfl (by decide) rfl rfl (by decide) dX5_nextSpreaders_6 ?_
  refine sw_aload_0 C dX5_nextSpreaders_9 ?_
  refine sw_getR C (o' := 25) fX5_10 rfl (by decide) rfl rfl (by decide) dX5_nextSpreaders_10 ?_
  refine sw_getR C (o' := 32) fX5_120 rfl (by decide) rfl rfl (by decide) dX5_nextSpreaders_13 ?_
  refine sw_iload_1 C dX5_nextSpreaders_16 ?_
  refine sn_aald C (o' := (33 + 2 * x)) rfl (by decide) (by decide) (by omega) (by decide) (zP32 (by omega)) (by omega) dX5_nextSpreaders_17 ?_
  refine sn_cV1r C vX3_believersToCome lX5_170 rfl (by decide) rfl rfl dX5_nextSpreaders_18 (Nat.le_of_ble_eq_true rfl) (c_X3_believersToCome hl hw (zRu0 (by omega)) (hru x (by omega))) (by decide) (by decide) (by decide) ?_
  exact sn_iret C rfl hF dX5_nextSpreaders_21 (by decide) (by decide) (by first | rfl | (simp [*]; done)) rfl rfl rfl

set_option maxRecDepth 100000 in
set_option maxHeartbeats 4000000 in
theorem t1_X5_nextSpreaders {l : Launch} (hl : l.stackTraces = false) {G : zG} {S : zS} {J : Int64} {E : UInt64} {n t : Nat} (hw : zNow S n t) {x : Nat} (hx : x < 2 ^ 32) (hxt : ¬ x < t) : nCT l G mX5_nextSpreaders 6 1 6 [.ref 0, zi x] S J E "java/lang/IndexOutOfBoundsException" S J E := by
  refine nCT.of hl (by decide) rfl (Nat.le_of_ble_eq_true rfl) (ls := [some (.ref 0), some (zi x)]) rfl (fun X C hF hX => ?_)
  subst hX
  obtain ⟨hn, hz, ht, ht4, hnb, hhv, hdb, hru⟩ := id hw
  refine sw_aload_0 C dX5_nextSpreaders_0 ?_
  refine sw_iload_1 C dX5_nextSpreaders_1 ?_
  exact sn_cV1T C vX5_needRumour kX5_117 rfl (by decide) rfl rfl dX5_nextSpreaders_2 (Nat.le_of_ble_eq_true rfl) (t_X5_needRumour hl ht ht4 hx hxt) (by decide) (by decide) (by decide) hF

set_option maxRecDepth 100000 in
set_option maxHeartbeats 4000000 in
theorem c_X5_rumourBySpread {l : Launch} (hl : l.stackTraces = false) {G : zG} {S : zS} {J : Int64} {E : UInt64} {n t : Nat} (hw : zNow S n t) {x : Nat} (hx : x < 2 ^ 32) (hb : zFind (fun r => decide (zRkR S t r = x)) t 0 < 2 ^ 32) (h0 : ¬ zFind (fun r => decide (zRkR S t r = x)) t 0 = 4294967295) : nCR l G mX5_rumourBySpread 6 0 0 [.ref 0, zi x] S J E (some (zi (zFind (fun r => decide (zRkR S t r = x)) t 0))) S J E := by
  refine nCR.of hl (by decide) rfl (Nat.le_of_ble_eq_true rfl) (ls := [some (.ref 0), some (zi x)]) rfl (fun X C hF hX => ?_)
  subst hX
  obtain ⟨hn, hz, ht, ht4, hnb, hhv, hdb, hru⟩ := id hw
  refine sw_aload_0 C dX5_rumourBySpread_0 ?_
  refine sw_getR C (o' := 25) fX5_10 rfl (by decide) rfl rfl (by decide) dX5_rumourBySpread_1 ?_
  refine sw_iload_1 C dX5_rumourBySpread_4 ?_
  refine sn_cV1r C vX3_rumourAtRank lX5_195 rfl (by decide) rfl rfl dX5_rumourBySpread_5 (Nat.le_of_ble_eq_true rfl) (c_X3_rumourAtRank hl ht ht4 hru hx) (by decide) (by decide) (by decide) ?_
  refine sn_cS1r C vX5_found lX5_164 dX5_rumourBySpread_8 (Nat.le_of_ble_eq_true rfl) (c_X5_found hl hb h0) (by decide) (by decide) (by decide) ?_
  exact sn_iret C rfl hF dX5_rumourBySpread_11 (by decide) (by decide) (by first | rfl | (simp [*]; done)) rfl rfl rfl

set_option maxRecDepth 100000 in
set_option maxHeartbeats 4000000 in
theorem t1_X5_rumourBySpread {l : Launch} (hl : l.stackTraces = false) {G : zG} {S : zS} {J : Int64} {E : UInt64} {n t : Nat} (hw : zNow S n t) {x : Nat} (hx : x < 2 ^ 32) (h0 : zFind (fun r => decide (zRkR S t r = x)) t 0 = 4294967295) : nCT l G mX5_rumourBySpread 6 1 6 [.ref 0, zi x] S J E "java/util/NoSuchElementException" S J E := by
  refine nCT.of hl (by decide) rfl (Nat.le_of_ble_eq_true rfl) (ls := [some (.ref 0), some (zi x)]) rfl (fun X C hF hX => ?_)
  subst hX
  obtain ⟨hn, hz, ht, ht4, hnb, hhv, hdb, hru⟩ := id hw
  refine sw_aload_0 C dX5_rumourBySpread_0 ?_
  refine sw_getR C (o' := 25) fX5_10 rfl (by decide) rfl rfl (by decide) dX5_rumourBySpread_1 ?_
  refine sw_iload_1 C dX5_rumourBySpread_4 ?_
  refine sn_cV1r C vX3_rumourAtRank lX5_195 rfl (by decide) rfl rfl dX5_rumourBySpread_5 (Nat.le_of_ble_eq_true rfl) (c_X3_rumourAtRank hl ht ht4 hru hx) (by decide) (by decide) (by decide) ?_
  exact sn_cS1T C vX5_found kX5_164 dX5_rumourBySpread_8 (Nat.le_of_ble_eq_true rfl) (t_X5_found hl h0) (by decide) (by decide) (by decide) hF

set_option maxRecDepth 100000 in
set_option maxHeartbeats 4000000 in
theorem c_X5_listenerByGossip {l : Launch} (hl : l.stackTraces = false) {G : zG} {S : zS} {J : Int64} {E : UInt64} {n t : Nat} (hw : zNow S n t) {x : Nat} (hx : x < 2 ^ 32) (hb : zFind (fun r => decide (zRkL S n t r = x)) n 0 < 2 ^ 32) (h0 : ¬ zFind (fun r => decide (zRkL S n t r = x)) n 0 = 4294967295) : nCR l G mX5_listenerByGossip 6 0 0 [.ref 0, zi x] S J E (some (zi (zFind (fun r => decide (zRkL S n t r = x)) n 0))) S J E := by
  refine nCR.of hl (by decide) rfl (Nat.le_of_ble_eq_true rfl) (ls := [some (.ref 0), some (zi x)]) rfl (fun X C hF hX => ?_)
  subst hX
  obtain ⟨hn, hz, ht, ht4, hnb, hhv, hdb, hru⟩ := id hw
  refine sw_aload_0 C dX5_listenerByGossip_0 ?_
  refine sw_getR C (o' := 25) fX5_10 rfl (by decide) rfl rfl (by decide) dX5_listenerByGossip_1 ?_
  refine sw_iload_1 C dX5_listenerByGossip_4 ?_
  refine sn_cV1r C vX3_listenerAtRank lX5_198 rfl (by decide) rfl rfl dX5_listenerByGossip_5 (Nat.le_of_ble_eq_true rfl) (c_X3_listenerAtRank hl hn hz ht ht4 hdb hx) (by decide) (by decide) (by decide) ?_
  refine sn_cS1r C vX5_found lX5_164 dX5_listenerByGossip_8 (Nat.le_of_ble_eq_true rfl) (c_X5_found hl hb h0) (by decide) (by decide) (by decide) ?_
  exact sn_iret C rfl hF dX5_listenerByGossip_11 (by decide) (by decide) (by first | rfl | (simp [*]; done)) rfl rfl rfl

set_option maxRecDepth 100000 in
set_option maxHeartbeats 4000000 in
theorem t1_X5_listenerByGossip {l : Launch} (hl : l.stackTraces = false) {G : zG} {S : zS} {J : Int64} {E : UInt64} {n t : Nat} (hw : zNow S n t) {x : Nat} (hx : x < 2 ^ 32) (h0 : zFind (fun r => decide (zRkL S n t r = x)) n 0 = 4294967295) : nCT l G mX5_listenerByGossip 6 1 6 [.ref 0, zi x] S J E "java/util/NoSuchElementException" S J E := by
  refine nCT.of hl (by decide) rfl (Nat.le_of_ble_eq_true rfl) (ls := [some (.ref 0), some (zi x)]) rfl (fun X C hF hX => ?_)
  subst hX
  obtain ⟨hn, hz, ht, ht4, hnb, hhv, hdb, hru⟩ := id hw
  refine sw_aload_0 C dX5_listenerByGossip_0 ?_
  refine sw_getR C (o' := 25) fX5_10 rfl (by decide) rfl rfl (by decide) dX5_listenerByGossip_1 ?_
  refine sw_iload_1 C dX5_listenerByGossip_4 ?_
  refine sn_cV1r C vX3_listenerAtRank lX5_198 rfl (by decide) rfl rfl dX5_listenerByGossip_5 (Nat.le_of_ble_eq_true rfl) (c_X3_listenerAtRank hl hn hz ht ht4 hdb hx) (by decide) (by decide) (by decide) ?_
  exact sn_cS1T C vX5_found kX5_164 dX5_listenerByGossip_8 (Nat.le_of_ble_eq_true rfl) (t_X5_found hl h0) (by decide) (by decide) (by decide) hF

set_option maxRecDepth 100000 in
set_option maxHeartbeats 4000000 in
theorem c_X5_errorPosition {l : Launch} (hl : l.stackTraces = false) {G : zG} {S : zS} {J : Int64} {E : UInt64} {n t : Nat} (hw : zNow S n t) (hb : S 0 8 < 2 ^ 32) (h0 : ¬ S 0 8 = 4294967295) : nCR l G mX5_errorPosition 6 0 0 [.ref 0] S J E (some (zi (S 0 8))) S J E := by
  refine nCR.of hl (by decide) rfl (Nat.le_of_ble_eq_true rfl) (ls := [some (.ref 0)]) rfl (fun X C hF hX => ?_)
  subst hX
  obtain ⟨hn, hz, ht, ht4, hnb, hhv, hdb, hru⟩ := id hw
  refine sw_aload_0 C dX5_errorPosition_0 ?_
  refine sn_getI C fX5_54 rfl (by decide) rfl dX5_errorPosition_1 ?_
  refine sn_cS1r C vX5_found lX5_164 dX5_errorPosition_4 (Nat.le_of_ble_eq_true rfl) (c_X5_found hl hb h0) (by decide) (by decide) (by decide) ?_
  exact sn_iret C rfl hF dX5_errorPosition_7 (by decide) (by decide) (by first | rfl | (simp [*]; done)) rfl rfl rfl

set_option maxRecDepth 100000 in
set_option maxHeartbeats 4000000 in
theorem t1_X5_errorPosition {l : Launch} (hl : l.stackTraces = false) {G : zG} {S : zS} {J : Int64} {E : UInt64} {n t : Nat} (hw : zNow S n t) (h0 : S 0 8 = 4294967295) : nCT l G mX5_errorPosition 6 1 6 [.ref 0] S J E "java/util/NoSuchElementException" S J E := by
  refine nCT.of hl (by decide) rfl (Nat.le_of_ble_eq_true rfl) (ls := [some (.ref 0)]) rfl (fun X C hF hX => ?_)
  subst hX
  obtain ⟨hn, hz, ht, ht4, hnb, hhv, hdb, hru⟩ := id hw
  refine sw_aload_0 C dX5_errorPosition_0 ?_
  refine sn_getI C fX5_54 rfl (by decide) rfl dX5_errorPosition_1 ?_
  exact sn_cS1T C vX5_found kX5_164 dX5_errorPosition_4 (Nat.le_of_ble_eq_true rfl) (t_X5_found hl h0) (by decide) (by decide) (by decide) hF

set_option maxRecDepth 100000 in
set_option maxHeartbeats 4000000 in
theorem c_X5_failedCommand {l : Launch} (hl : l.stackTraces = false) {G : zG} {S : zS} {J : Int64} {E : UInt64} {n t : Nat} (hw : zNow S n t) (hb : S 0 9 < 2 ^ 32) (h0 : ¬ S 0 9 = 4294967295) : nCR l G mX5_failedCommand 6 0 0 [.ref 0] S J E (some (zi (S 0 9))) S J E := by
  refine nCR.of hl (by decide) rfl (Nat.le_of_ble_eq_true rfl) (ls := [some (.ref 0)]) rfl (fun X C hF hX => ?_)
  subst hX
  obtain ⟨hn, hz, ht, ht4, hnb, hhv, hdb, hru⟩ := id hw
  refine sw_aload_0 C dX5_failedCommand_0 ?_
  refine sn_getI C fX5_58 rfl (by decide) rfl dX5_failedCommand_1 ?_
  refine sn_cS1r C vX5_found lX5_164 dX5_failedCommand_4 (Nat.le_of_ble_eq_true rfl) (c_X5_found hl hb h0) (by decide) (by decide) (by decide) ?_
  exact sn_iret C rfl hF dX5_failedCommand_7 (by decide) (by decide) (by first | rfl | (simp [*]; done)) rfl rfl rfl

set_option maxRecDepth 100000 in
set_option maxHeartbeats 4000000 in
theorem t1_X5_failedCommand {l : Launch} (hl : l.stackTraces = false) {G : zG} {S : zS} {J : Int64} {E : UInt64} {n t : Nat} (hw : zNow S n t) (h0 : S 0 9 = 4294967295) : nCT l G mX5_failedCommand 6 1 6 [.ref 0] S J E "java/util/NoSuchElementException" S J E := by
  refine nCT.of hl (by decide) rfl (Nat.le_of_ble_eq_true rfl) (ls := [some (.ref 0)]) rfl (fun X C hF hX => ?_)
  subst hX
  obtain ⟨hn, hz, ht, ht4, hnb, hhv, hdb, hru⟩ := id hw
  refine sw_aload_0 C dX5_failedCommand_0 ?_
  refine sn_getI C fX5_58 rfl (by decide) rfl dX5_failedCommand_1 ?_
  exact sn_cS1T C vX5_found kX5_164 dX5_failedCommand_4 (Nat.le_of_ble_eq_true rfl) (t_X5_found hl h0) (by decide) (by decide) (by decide) hF
