theorem qX5_7 : Cond.classLink RX5 7 "RumourHives$Scene" ∈ lw_tbl := List.mem_of_getElem? (i := 62) (by decide +kernel)
theorem qX5_22 : Cond.classLink RX5 22 "RumourHives$History" ∈ lw_tbl := List.mem_of_getElem? (i := 166) (by decide +kernel)
theorem qX5_29 : Cond.classLink RX5 29 "RumourHives$Rumour" ∈ lw_tbl := List.mem_of_getElem? (i := 186) (by decide +kernel)
theorem qX5_36 : Cond.classLink RX5 36 "RumourHives$Script" ∈ lw_tbl := List.mem_of_getElem? (i := 188) (by decide +kernel)
theorem qX5_43 : Cond.classLink RX5 43 "java/lang/StringBuilder" ∈ lw_tbl := List.mem_of_getElem? (i := 234) (by decide +kernel)
theorem qX5_248 : Cond.classLink RX5 248 "java/lang/IndexOutOfBoundsException" ∈ lw_tbl := List.mem_of_getElem? (i := 460) (by decide +kernel)
theorem qX5_183 : Cond.classLink RX5 183 "java/lang/IllegalArgumentException" ∈ lw_tbl := List.mem_of_getElem? (i := 531) (by decide +kernel)
theorem qX5_174 : Cond.classLink RX5 174 "java/lang/IllegalStateException" ∈ lw_tbl := List.mem_of_getElem? (i := 547) (by decide +kernel)
theorem qX5_145 : Cond.classLink RX5 145 "java/util/NoSuchElementException" ∈ lw_tbl := List.mem_of_getElem? (i := 563) (by decide +kernel)
theorem qX5_210 : Cond.classLink RX5 210 "java/lang/ArithmeticException" ∈ lw_tbl := List.mem_of_getElem? (i := 765) (by decide +kernel)
set_option maxRecDepth 100000 in
set_option maxHeartbeats 4000000 in
theorem c_X5_needListener {l : Launch} (hl : l.stackTraces = false) {G : zG} {S : zS} {J : Int64} {E : UInt64} {n : Nat} (hn : S 26 0 = n) (hz : n ≤ 12) {x : Nat} (hx : x < 2 ^ 32) (h : x < n) : nCR l G mX5_needListener 3 0 0 [.ref 0, zi x] S J E none S J E := by
  refine nCR.of hl (by decide) rfl (Nat.le_of_ble_eq_true rfl) (ls := [some (.ref 0), some (zi x)]) rfl (fun X C hF hX => ?_)
  subst hX
  refine sw_aload_0 C dX5_needListener_0 ?_
  refine sw_getR C (o' := 25) fX5_10 rfl (by decide) rfl rfl (by decide) dX5_needListener_1 ?_
  refine sw_iload_1 C dX5_needListener_4 ?_
  refine sn_cV1r C vX3_hasListener lX5_292 rfl (by decide) rfl rfl dX5_needListener_5 (Nat.le_of_ble_eq_true rfl) (c_X3_hasListener hl hn hz hx) (by decide) (by decide) (by decide) ?_
  refine sn_if_neB C 22 dX5_needListener_8 (by decide) (fun c8 => ?_) (fun c8 => ?_)
  · simp only [decide_eq_false_iff_not, decide_eq_true_eq] at c8
    exact sn_vret C rfl hF dX5_needListener_22 (by decide) (by decide) rfl rfl rfl
  · simp only [decide_eq_false_iff_not, decide_eq_true_eq] at c8
    exfalso; first | omega | (simp_all; done) | (simp_all; omega)

set_option maxRecDepth 100000 in
set_option maxHeartbeats 4000000 in
theorem t_X5_needListener {l : Launch} (hl : l.stackTraces = false) {G : zG} {S : zS} {J : Int64} {E : UInt64} {n : Nat} (hn : S 26 0 = n) (hz : n ≤ 12) {x : Nat} (hx : x < 2 ^ 32) (h : ¬ x < n) : nCT l G mX5_needListener 3 1 6 [.ref 0, zi x] S J E "java/lang/IndexOutOfBoundsException" S J E := by
  refine nCT.of hl (by decide) rfl (Nat.le_of_ble_eq_true rfl) (ls := [some (.ref 0), some (zi x)]) rfl (fun X C hF hX => ?_)
  subst hX
  refine sw_aload_0 C dX5_needListener_0 ?_
  refine sw_getR C (o' := 25) fX5_10 rfl (by decide) rfl rfl (by decide) dX5_needListener_1 ?_
  refine sw_iload_1 C dX5_needListener_4 ?_
  refine sn_cV1r C vX3_hasListener lX5_292 rfl (by decide) rfl rfl dX5_needListener_5 (Nat.le_of_ble_eq_true rfl) (c_X3_hasListener hl hn hz hx) (by decide) (by decide) (by decide) ?_
  refine sn_if_neB C 22 dX5_needListener_8 (by decide) (fun c8 => ?_) (fun c8 => ?_)
  · simp only [decide_eq_false_iff_not, decide_eq_true_eq] at c8
    exfalso; first | omega | (simp_all; done) | (simp_all; omega)
  · simp only [decide_eq_false_iff_not, decide_eq_true_eq] at c8
    exact sw_throwW C (text := "no such listener") zThI qX5_248 (by decide +kernel) hF dX5_needListener_11 dX5_needListener_14 dX5_needListener_15 dX5_needListener_18 dX5_needListener_21 (by decide) (Nat.le_of_ble_eq_true rfl) (by decide) (by decide)

set_option maxRecDepth 100000 in
set_option maxHeartbeats 4000000 in
theorem c_X5_needRumour {l : Launch} (hl : l.stackTraces = false) {G : zG} {S : zS} {J : Int64} {E : UInt64} {t : Nat} (ht : S 25 4 = t) (ht4 : t ≤ 4) {x : Nat} (hx : x < 2 ^ 32) (h : x < t) : nCR l G mX5_needRumour 3 0 0 [.ref 0, zi x] S J E none S J E := by
  refine nCR.of hl (by decide) rfl (Nat.le_of_ble_eq_true rfl) (ls := [some (.ref 0), some (zi x)]) rfl (fun X C hF hX => ?_)
  subst hX
  refine sw_aload_0 C dX5_needRumour_0 ?_
  refine sw_getR C (o' := 25) fX5_10 rfl (by decide) rfl rfl (by decide) dX5_needRumour_1 ?_
  refine sw_iload_1 C dX5_needRumour_4 ?_
  refine sn_cV1r C vX3_hasRumour lX5_298 rfl (by decide) rfl rfl dX5_needRumour_5 (Nat.le_of_ble_eq_true rfl) (c_X3_hasRumour hl ht ht4 hx) (by decide) (by decide) (by decide) ?_
  refine sn_if_neB C 22 dX5_needRumour_8 (by decide) (fun c8 => ?_) (fun c8 => ?_)
  · simp only [decide_eq_false_iff_not, decide_eq_true_eq] at c8
    exact sn_vret C rfl hF dX5_needRumour_22 (by decide) (by decide) rfl rfl rfl
  · simp only [decide_eq_false_iff_not, decide_eq_true_eq] at c8
    exfalso; first | omega | (simp_all; done) | (simp_all; omega)

set_option maxRecDepth 100000 in
set_option maxHeartbeats 4000000 in
theorem t_X5_needRumour {l : Launch} (hl : l.stackTraces = false) {G : zG} {S : zS} {J : Int64} {E : UInt64} {t : Nat} (ht : S 25 4 = t) (ht4 : t ≤ 4) {x : Nat} (hx : x < 2 ^ 32) (h : ¬ x < t) : nCT l G mX5_needRumour 3 1 6 [.ref 0, zi x] S J E "java/lang/IndexOutOfBoundsException" S J E := by
  refine nCT.of hl (by decide) rfl (Nat.le_of_ble_eq_true rfl) (ls := [some (.ref 0), some (zi x)]) rfl (fun X C hF hX => ?_)
  subst hX
  refine sw_aload_0 C dX5_needRumour_0 ?_
  refine sw_getR C (o' := 25) fX5_10 rfl (by decide) rfl rfl (by decide) dX5_needRumour_1 ?_
  refine sw_iload_1 C dX5_needRumour_4 ?_
  refine sn_cV1r C vX3_hasRumour lX5_298 rfl (by decide) rfl rfl dX5_needRumour_5 (Nat.le_of_ble_eq_true rfl) (c_X3_hasRumour hl ht ht4 hx) (by decide) (by decide) (by decide) ?_
  refine sn_if_neB C 22 dX5_needRumour_8 (by decide) (fun c8 => ?_) (fun c8 => ?_)
  · simp only [decide_eq_false_iff_not, decide_eq_true_eq] at c8
    exfalso; first | omega | (simp_all; done) | (simp_all; omega)
  · simp only [decide_eq_false_iff_not, decide_eq_true_eq] at c8
    exact sw_throwW C (text := "no such rumour") zThI qX5_248 (by decide +kernel) hF dX5_needRumour_11 dX5_needRumour_14 dX5_needRumour_15 dX5_needRumour_18 dX5_needRumour_21 (by decide) (Nat.le_of_ble_eq_true rfl) (by decide) (by decide)

set_option maxRecDepth 100000 in
set_option maxHeartbeats 4000000 in
theorem c_X5_needHive {l : Launch} (hl : l.stackTraces = false) {G : zG} {S : zS} {J : Int64} {E : UInt64} {x : Nat} (hx : x < 2 ^ 32) (h : x < 4) : nCR l G mX5_needHive 3 0 0 [zi x] S J E none S J E := by
  refine nCR.of hl (by decide) rfl (Nat.le_of_ble_eq_true rfl) (ls := [some (zi x)]) rfl (fun X C hF hX => ?_)
  subst hX
  refine sw_iload_0 C dX5_needHive_0 ?_
  refine sn_cS1r C vX5_isHive lX5_303 dX5_needHive_1 (Nat.le_of_ble_eq_true rfl) (c_X5_isHive hl hx) (by decide) (by decide) (by decide) ?_
  refine sn_if_neB C 18 dX5_needHive_4 (by decide) (fun c4 => ?_) (fun c4 => ?_)
  · simp only [decide_eq_false_iff_not, decide_eq_true_eq] at c4
    exact sn_vret C rfl hF dX5_needHive_18 (by decide) (by decide) rfl rfl rfl
  · simp only [decide_eq_false_iff_not, decide_eq_true_eq] at c4
    exfalso; first | omega | (simp_all; done) | (simp_all; omega)

set_option maxRecDepth 100000 in
set_option maxHeartbeats 4000000 in
theorem t_X5_needHive {l : Launch} (hl : l.stackTraces = false) {G : zG} {S : zS} {J : Int64} {E : UInt64} {x : Nat} (hx : x < 2 ^ 32) (h : ¬ x < 4) : nCT l G mX5_needHive 3 1 6 [zi x] S J E "java/lang/IndexOutOfBoundsException" S J E := by
  refine nCT.of hl (by decide) rfl (Nat.le_of_ble_eq_true rfl) (ls := [some (zi x)]) rfl (fun X C hF hX => ?_)
  subst hX
  refine sw_iload_0 C dX5_needHive_0 ?_
  refine sn_cS1r C vX5_isHive lX5_303 dX5_needHive_1 (Nat.le_of_ble_eq_true rfl) (c_X5_isHive hl hx) (by decide) (by decide) (by decide) ?_
  refine sn_if_neB C 18 dX5_needHive_4 (by decide) (fun c4 => ?_) (fun c4 => ?_)
  · simp only [decide_eq_false_iff_not, decide_eq_true_eq] at c4
    exfalso; first | omega | (simp_all; done) | (simp_all; omega)
  · simp only [decide_eq_false_iff_not, decide_eq_true_eq] at c4
    exact sw_throwW C (text := "no such hive") zThI qX5_248 (by decide +kernel) hF dX5_needHive_7 dX5_needHive_10 dX5_needHive_11 dX5_needHive_14 dX5_needHive_17 (by decide) (Nat.le_of_ble_eq_true rfl) (by decide) (by decide)

set_option maxRecDepth 100000 in
set_option maxHeartbeats 4000000 in
theorem c_X5_found {l : Launch} (hl : l.stackTraces = false) {G : zG} {S : zS} {J : Int64} {E : UInt64} {x : Nat} (hx : x < 2 ^ 32) (h : ¬ x = 4294967295) : nCR l G mX5_found 3 0 0 [zi x] S J E (some (zi x)) S J E := by
  refine nCR.of hl (by decide) rfl (Nat.le_of_ble_eq_true rfl) (ls := [some (zi x)]) rfl (fun X C hF hX => ?_)
  subst hX
  refine sw_iload_0 C dX5_found_0 ?_
  refine sn_iconst C 4294967295 (by decide) dX5_found_1 ?_
  refine sn_icmp_ne C 16 hx (by decide) dX5_found_2 (by decide) (fun c2 => ?_) (fun c2 => ?_)
  · refine sw_iload_0 C dX5_found_16 ?_
    exact sn_iret C rfl hF dX5_found_17 (by decide) (by decide) (by first | rfl | (simp [*]; done)) rfl rfl rfl
  · exfalso; first | omega | (simp_all; done) | (simp_all; omega)

set_option maxRecDepth 100000 in
set_option maxHeartbeats 4000000 in
theorem t_X5_found {l : Launch} (hl : l.stackTraces = false) {G : zG} {S : zS} {J : Int64} {E : UInt64} {x : Nat} (h : x = 4294967295) : nCT l G mX5_found 3 1 6 [zi x] S J E "java/util/NoSuchElementException" S J E := by
  refine nCT.of hl (by decide) rfl (Nat.le_of_ble_eq_true rfl) (ls := [some (zi x)]) rfl (fun X C hF hX => ?_)
  subst hX
  refine sw_iload_0 C dX5_found_0 ?_
  refine sn_iconst C 4294967295 (by decide) dX5_found_1 ?_
  refine sn_icmp_ne C 16 (by omega) (by decide) dX5_found_2 (by decide) (fun c2 => ?_) (fun c2 => ?_)
  · refine sw_iload_0 C dX5_found_16 ?_
    exfalso; first | omega | (simp_all; done) | (simp_all; omega)
  · exact sw_throwNW C (text := "there is none") qX5_145 (by decide +kernel) hF dX5_found_5 dX5_found_8 dX5_found_9 dX5_found_12 dX5_found_15 (Nat.le_of_ble_eq_true rfl) (by decide) (by decide)

set_option maxRecDepth 100000 in
set_option maxHeartbeats 4000000 in
theorem c_X5_refuse {l : Launch} (hl : l.stackTraces = false) {G : zG} {S : zS} {J : Int64} {E : UInt64} {x : Nat} (h : x = 0) : nCR l G mX5_refuse 3 0 0 [zi x] S J E none S J E := by
  refine nCR.of hl (by decide) rfl (Nat.le_of_ble_eq_true rfl) (ls := [some (zi x)]) rfl (fun X C hF hX => ?_)
  subst hX
  refine sw_iload_0 C dX5_refuse_0 ?_
  refine sn_iconst C 1 (by decide) dX5_refuse_1 ?_
  refine sn_icmp_ne C 16 (by omega) (by decide) dX5_refuse_2 (by decide) (fun c2 => ?_) (fun c2 => ?_)
  · refine sw_iload_0 C dX5_refuse_16 ?_
    refine sn_iconst C 2 (by decide) dX5_refuse_17 ?_
    refine sn_icmp_ne C 32 (by omega) (by decide) dX5_refuse_18 (by decide) (fun c18 => ?_) (fun c18 => ?_)
    · refine sw_iload_0 C dX5_refuse_32 ?_
      refine sn_iconst C 3 (by decide) dX5_refuse_33 ?_
      refine sn_icmp_ne C 48 (by omega) (by decide) dX5_refuse_34 (by decide) (fun c34 => ?_) (fun c34 => ?_)
      · refine sw_iload_0 C dX5_refuse_48 ?_
        refine sn_iconst C 4 (by decide) dX5_refuse_49 ?_
        refine sn_icmp_ne C 64 (by omega) (by decide) dX5_refuse_50 (by decide) (fun c50 => ?_) (fun c50 => ?_)
        · exact sn_vret C rfl hF dX5_refuse_64 (by decide) (by decide) rfl rfl rfl
        · omega
      · omega
    · omega
  · omega

set_option maxRecDepth 100000 in
set_option maxHeartbeats 4000000 in
theorem t1_X5_refuse {l : Launch} (hl : l.stackTraces = false) {G : zG} {S : zS} {J : Int64} {E : UInt64} {x : Nat} (h : x = 1) : nCT l G mX5_refuse 3 1 6 [zi x] S J E "java/lang/IndexOutOfBoundsException" S J E := by
  refine nCT.of hl (by decide) rfl (Nat.le_of_ble_eq_true rfl) (ls := [some (zi x)]) rfl (fun X C hF hX => ?_)
  subst hX
  refine sw_iload_0 C dX5_refuse_0 ?_
  refine sn_iconst C 1 (by decide) dX5_refuse_1 ?_
  refine sn_icmp_ne C 16 (by omega) (by decide) dX5_refuse_2 (by decide) (fun c2 => ?_) (fun c2 => ?_)
  · refine sw_iload_0 C dX5_refuse_16 ?_
    refine sn_iconst C 2 (by decide) dX5_refuse_17 ?_
    refine sn_icmp_ne C 32 (by omega) (by decide) dX5_refuse_18 (by decide) (fun c18 => ?_) (fun c18 => ?_)
    · refine sw_iload_0 C dX5_refuse_32 ?_
      refine sn_iconst C 3 (by decide) dX5_refuse_33 ?_
      refine sn_icmp_ne C 48 (by omega) (by decide) dX5_refuse_34 (by decide) (fun c34 => ?_) (fun c34 => ?_)
      · refine sw_iload_0 C dX5_refuse_48 ?_
        refine sn_iconst C 4 (by decide) dX5_refuse_49 ?_
        refine sn_icmp_ne C 64 (by omega) (by decide) dX5_refuse_50 (by decide) (fun c50 => ?_) (fun c50 => ?_)
        · omega
        · omega
      · omega
    · omega
  · exact sw_throwW C (text := "no such index") zThI qX5_248 (by decide +kernel) hF dX5_refuse_5 dX5_refuse_8 dX5_refuse_9 dX5_refuse_12 dX5_refuse_15 (by decide) (Nat.le_of_ble_eq_true rfl) (by decide) (by decide)

set_option maxRecDepth 100000 in
set_option maxHeartbeats 4000000 in
theorem t2_X5_refuse {l : Launch} (hl : l.stackTraces = false) {G : zG} {S : zS} {J : Int64} {E : UInt64} {x : Nat} (h : x = 2) : nCT l G mX5_refuse 3 1 6 [zi x] S J E "java/lang/IllegalArgumentException" S J E := by
  refine nCT.of hl (by decide) rfl (Nat.le_of_ble_eq_true rfl) (ls := [some (zi x)]) rfl (fun X C hF hX => ?_)
  subst hX
  refine sw_iload_0 C dX5_refuse_0 ?_
  refine sn_iconst C 1 (by decide) dX5_refuse_1 ?_
  refine sn_icmp_ne C 16 (by omega) (by decide) dX5_refuse_2 (by decide) (fun c2 => ?_) (fun c2 => ?_)
  · refine sw_iload_0 C dX5_refuse_16 ?_
    refine sn_iconst C 2 (by decide) dX5_refuse_17 ?_
    refine sn_icmp_ne C 32 (by omega) (by decide) dX5_refuse_18 (by decide) (fun c18 => ?_) (fun c18 => ?_)
    · refine sw_iload_0 C dX5_refuse_32 ?_
      refine sn_iconst C 3 (by decide) dX5_refuse_33 ?_
      refine sn_icmp_ne C 48 (by omega) (by decide) dX5_refuse_34 (by decide) (fun c34 => ?_) (fun c34 => ?_)
      · refine sw_iload_0 C dX5_refuse_48 ?_
        refine sn_iconst C 4 (by decide) dX5_refuse_49 ?_
        refine sn_icmp_ne C 64 (by omega) (by decide) dX5_refuse_50 (by decide) (fun c50 => ?_) (fun c50 => ?_)
        · omega
        · omega
      · omega
    · exact sw_throwW C (text := "an argument is not allowed") zThA qX5_183 (by decide +kernel) hF dX5_refuse_21 dX5_refuse_24 dX5_refuse_25 dX5_refuse_28 dX5_refuse_31 (by decide) (Nat.le_of_ble_eq_true rfl) (by decide) (by decide)
  · omega

set_option maxRecDepth 100000 in
set_option maxHeartbeats 4000000 in
theorem t3_X5_refuse {l : Launch} (hl : l.stackTraces = false) {G : zG} {S : zS} {J : Int64} {E : UInt64} {x : Nat} (h : x = 3) : nCT l G mX5_refuse 3 1 6 [zi x] S J E "java/lang/IllegalStateException" S J E := by
  refine nCT.of hl (by decide) rfl (Nat.le_of_ble_eq_true rfl) (ls := [some (zi x)]) rfl (fun X C hF hX => ?_)
  subst hX
  refine sw_iload_0 C dX5_refuse_0 ?_
  refine sn_iconst C 1 (by decide) dX5_refuse_1 ?_
  refine sn_icmp_ne C 16 (by omega) (by decide) dX5_refuse_2 (by decide) (fun c2 => ?_) (fun c2 => ?_)
  · refine sw_iload_0 C dX5_refuse_16 ?_
    refine sn_iconst C 2 (by decide) dX5_refuse_17 ?_
    refine sn_icmp_ne C 32 (by omega) (by decide) dX5_refuse_18 (by decide) (fun c18 => ?_) (fun c18 => ?_)
    · refine sw_iload_0 C dX5_refuse_32 ?_
      refine sn_iconst C 3 (by decide) dX5_refuse_33 ?_
      refine sn_icmp_ne C 48 (by omega) (by decide) dX5_refuse_34 (by decide) (fun c34 => ?_) (fun c34 => ?_)
      · refine sw_iload_0 C dX5_refuse_48 ?_
        refine sn_iconst C 4 (by decide) dX5_refuse_49 ?_
        refine sn_icmp_ne C 64 (by omega) (by decide) dX5_refuse_50 (by decide) (fun c50 => ?_) (fun c50 => ?_)
        · omega
        · omega
      · exact sw_throwW C (text := "the state does not allow the call") zThS qX5_174 (by decide +kernel) hF dX5_refuse_37 dX5_refuse_40 dX5_refuse_41 dX5_refuse_44 dX5_refuse_47 (by decide) (Nat.le_of_ble_eq_true rfl) (by decide) (by decide)
    · omega
  · omega

set_option maxRecDepth 100000 in
set_option maxHeartbeats 4000000 in
theorem t4_X5_refuse {l : Launch} (hl : l.stackTraces = false) {G : zG} {S : zS} {J : Int64} {E : UInt64} {x : Nat} (h : x = 4) : nCT l G mX5_refuse 3 1 6 [zi x] S J E "java/util/NoSuchElementException" S J E := by
  refine nCT.of hl (by decide) rfl (Nat.le_of_ble_eq_true rfl) (ls := [some (zi x)]) rfl (fun X C hF hX => ?_)
  subst hX
  refine sw_iload_0 C dX5_refuse_0 ?_
  refine sn_iconst C 1 (by decide) dX5_refuse_1 ?_
  refine sn_icmp_ne C 16 (by omega) (by decide) dX5_refuse_2 (by decide) (fun c2 => ?_) (fun c2 => ?_)
  · refine sw_iload_0 C dX5_refuse_16 ?_
    refine sn_iconst C 2 (by decide) dX5_refuse_17 ?_
    refine sn_icmp_ne C 32 (by omega) (by decide) dX5_refuse_18 (by decide) (fun c18 => ?_) (fun c18 => ?_)
    · refine sw_iload_0 C dX5_refuse_32 ?_
      refine sn_iconst C 3 (by decide) dX5_refuse_33 ?_
      refine sn_icmp_ne C 48 (by omega) (by decide) dX5_refuse_34 (by decide) (fun c34 => ?_) (fun c34 => ?_)
      · refine sw_iload_0 C dX5_refuse_48 ?_
        refine sn_iconst C 4 (by decide) dX5_refuse_49 ?_
        refine sn_icmp_ne C 64 (by omega) (by decide) dX5_refuse_50 (by decide) (fun c50 => ?_) (fun c50 => ?_)
        · omega
        · exact sw_throwNW C (text := "there is none") qX5_145 (by decide +kernel) hF dX5_refuse_53 dX5_refuse_56 dX5_refuse_57 dX5_refuse_60 dX5_refuse_63 (Nat.le_of_ble_eq_true rfl) (by decide) (by decide)
      · omega
    · omega
  · omega
