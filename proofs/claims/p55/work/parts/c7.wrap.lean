/-! the law's methods around a call: what they answer -/
theorem qL_8 : Cond.classLink RL 8 "RumourHives" ∈ lw_tbl := (List.mem_of_getElem? (i := 54) (by decide +kernel))
theorem qL_13 : Cond.classLink RL 13 "java/lang/IllegalArgumentException" ∈ lw_tbl := (List.mem_of_getElem? (i := 395) (by decide +kernel))
theorem qL_15 : Cond.classLink RL 15 "java/lang/IllegalStateException" ∈ lw_tbl := (List.mem_of_getElem? (i := 396) (by decide +kernel))
theorem qL_20 : Cond.classLink RL 20 "java/lang/IndexOutOfBoundsException" ∈ lw_tbl := (List.mem_of_getElem? (i := 672) (by decide +kernel))
theorem qL_25 : Cond.classLink RL 25 "java/util/NoSuchElementException" ∈ lw_tbl := (List.mem_of_getElem? (i := 728) (by decide +kernel))
theorem qL_118 : Cond.classLink RL 118 "java/lang/ArithmeticException" ∈ lw_tbl := (List.mem_of_getElem? (i := 747) (by decide +kernel))
theorem qL_157 : Cond.classLink RL 157 "java/lang/StringBuilder" ∈ lw_tbl := (List.mem_of_getElem? (i := 1268) (by decide +kernel))
theorem qL_185 : Cond.classLink RL 185 "RumourHivesLaw$Bits" ∈ lw_tbl := (List.mem_of_getElem? (i := 374) (by decide +kernel))
theorem qC_ArithmeticException : Cond.castable "java/lang/ArithmeticException" "java/lang/ArithmeticException" ∈ lw_tbl := (List.mem_of_getElem? (i := 759) (by decide +kernel))
theorem qC_IllegalArgumentException : Cond.castable "java/lang/IllegalArgumentException" "java/lang/IllegalArgumentException" ∈ lw_tbl := (List.mem_of_getElem? (i := 533) (by decide +kernel))
theorem qC_IllegalStateException : Cond.castable "java/lang/IllegalStateException" "java/lang/IllegalStateException" ∈ lw_tbl := (List.mem_of_getElem? (i := 549) (by decide +kernel))
theorem qC_IndexOutOfBoundsException : Cond.castable "java/lang/IndexOutOfBoundsException" "java/lang/IndexOutOfBoundsException" ∈ lw_tbl := (List.mem_of_getElem? (i := 462) (by decide +kernel))
theorem qC_NoSuchElementException : Cond.castable "java/util/NoSuchElementException" "java/util/NoSuchElementException" ∈ lw_tbl := (List.mem_of_getElem? (i := 565) (by decide +kernel))
theorem iL_law : Cond.initialized RL ∈ lw_tbl := (List.mem_of_getElem? (i := 24) (by decide +kernel))
abbrev hhL_addListener : zHh := [(0, 6, 7, 13), (0, 6, 10, 15)]
theorem wL_addListener : Cond.codeWith mL_addListener.1 mL_addListener.2.1 mL_addListener.2.2.1 mL_addListener.2.2.2 hhL_addListener ∈ lw_tbl := (List.mem_of_getElem? (i := 394) (by decide +kernel))
theorem sL_addListener : Cond.static mL_addListener.1 ∈ lw_tbl := (List.mem_of_getElem? (i := 393) (by decide +kernel))
set_option maxHeartbeats 1000000 in
theorem rL_addListener {l : Launch} (hl : l.stackTraces = false) {G : zG} {S S1 : zS} {J : Int64} {E : UInt64} {d mc ms : Nat} {x y : Nat} {v : Nat} (h : nCR l G mX5_addListener d mc ms [.ref 0, zi x, zi y] S J E (some (zi v)) S1 J E) : wCR l G mL_addListener hhL_addListener (d + 1) mc ms [.ref 0, zi x, zi y] S J E (some (zi v)) S1 J E := by
  refine wCR.of hl (by decide) rfl (Nat.le_of_ble_eq_true rfl) (ls := [some (.ref 0), some (zi x), some (zi y), none]) rfl (fun X C W hF hX => ?_)
  subst hX
  refine sw_aload_0 C dL_addListener_0 ?_
  refine sw_iload_1 C dL_addListener_1 ?_
  refine sw_iload_2 C dL_addListener_2 ?_
  refine sn_cV2r C vX5_addListener lL_7 rfl (by decide) rfl rfl dL_addListener_3 (Nat.le_of_ble_eq_true rfl) h (Nat.le_refl _) (by omega) (by omega) ?_
  exact sn_iret C rfl hF dL_addListener_6 (by omega) (by omega) rfl rfl rfl rfl
theorem eL_addListener_1 : wSel RL "java/lang/IllegalArgumentException" hhL_addListener 3 7 := ⟨(tableOf hhL_addListener).take 0, (tableOf hhL_addListener).get ⟨0, by decide⟩, (tableOf hhL_addListener).drop 1, rfl, (fun z hz => by cases hz), by decide, by decide, rfl, "java/lang/IllegalArgumentException", qL_13, qC_IllegalArgumentException⟩
set_option maxHeartbeats 1000000 in
theorem tL_addListener_1 {l : Launch} (hl : l.stackTraces = false) {G : zG} {S S1 : zS} {J : Int64} {E : UInt64} {d mc ms : Nat} {x y : Nat} (h : nCT l G mX5_addListener d mc ms [.ref 0, zi x, zi y] S J E "java/lang/IllegalArgumentException" S1 J E) : wCR l G mL_addListener hhL_addListener (d + 1) mc ms [.ref 0, zi x, zi y] S J E (some (zi 4294967295)) S1 J E := by
  refine wCR.of hl (by decide) rfl (Nat.le_of_ble_eq_true rfl) (ls := [some (.ref 0), some (zi x), some (zi y), none]) rfl (fun X C W hF hX => ?_)
  subst hX
  refine sw_aload_0 C dL_addListener_0 ?_
  refine sw_iload_1 C dL_addListener_1 ?_
  refine sw_iload_2 C dL_addListener_2 ?_
  refine sw_callV_C (as := [zi x, zi y]) (st := []) (i := 3) (hpc := 7) (len := 1) C W vX5_addListener kL_7 rfl (by decide) rfl rfl dL_addListener_3 rfl (Nat.le_of_ble_eq_true rfl) h (Nat.le_refl _) (by omega) (by omega) eL_addListener_1 (Nat.le_of_ble_eq_true rfl) (fun u hu => by cases hu; rfl) (Or.inr ⟨3, rfl, dL_addListener_7, rfl⟩) (ls' := [some (.ref 0), some (zi x), some (zi y), none]) rfl ?_
  refine sn_iconst C 4294967295 (by decide) dL_addListener_8 ?_
  exact sn_iret C rfl hF dL_addListener_9 (by omega) (by omega) rfl rfl rfl rfl
theorem eL_addListener_2 : wSel RL "java/lang/IllegalStateException" hhL_addListener 3 10 := ⟨(tableOf hhL_addListener).take 1, (tableOf hhL_addListener).get ⟨1, by decide⟩, (tableOf hhL_addListener).drop 2, rfl, (fun z hz => by rcases List.mem_singleton.mp hz with rfl; exact ⟨by decide, "java/lang/IllegalArgumentException", qL_13, by decide +kernel⟩), by decide, by decide, rfl, "java/lang/IllegalStateException", qL_15, qC_IllegalStateException⟩
set_option maxHeartbeats 1000000 in
theorem tL_addListener_2 {l : Launch} (hl : l.stackTraces = false) {G : zG} {S S1 : zS} {J : Int64} {E : UInt64} {d mc ms : Nat} {x y : Nat} (h : nCT l G mX5_addListener d mc ms [.ref 0, zi x, zi y] S J E "java/lang/IllegalStateException" S1 J E) : wCR l G mL_addListener hhL_addListener (d + 1) mc ms [.ref 0, zi x, zi y] S J E (some (zi 4294967294)) S1 J E := by
  refine wCR.of hl (by decide) rfl (Nat.le_of_ble_eq_true rfl) (ls := [some (.ref 0), some (zi x), some (zi y), none]) rfl (fun X C W hF hX => ?_)
  subst hX
  refine sw_aload_0 C dL_addListener_0 ?_
  refine sw_iload_1 C dL_addListener_1 ?_
  refine sw_iload_2 C dL_addListener_2 ?_
  refine sw_callV_C (as := [zi x, zi y]) (st := []) (i := 3) (hpc := 10) (len := 1) C W vX5_addListener kL_7 rfl (by decide) rfl rfl dL_addListener_3 rfl (Nat.le_of_ble_eq_true rfl) h (Nat.le_refl _) (by omega) (by omega) eL_addListener_2 (Nat.le_of_ble_eq_true rfl) (fun u hu => by cases hu; rfl) (Or.inr ⟨3, rfl, dL_addListener_10, rfl⟩) (ls' := [some (.ref 0), some (zi x), some (zi y), none]) rfl ?_
  refine sn_bipush C 4294967294 (by decide) dL_addListener_11 ?_
  exact sn_iret C rfl hF dL_addListener_13 (by omega) (by omega) rfl rfl rfl rfl
abbrev hhL_link : zHh := [(0, 6, 7, 20), (0, 6, 10, 13), (0, 6, 14, 15)]
theorem wL_link : Cond.codeWith mL_link.1 mL_link.2.1 mL_link.2.2.1 mL_link.2.2.2 hhL_link ∈ lw_tbl := (List.mem_of_getElem? (i := 671) (by decide +kernel))
theorem sL_link : Cond.static mL_link.1 ∈ lw_tbl := (List.mem_of_getElem? (i := 670) (by decide +kernel))
set_option maxHeartbeats 1000000 in
theorem rL_link {l : Launch} (hl : l.stackTraces = false) {G : zG} {S S1 : zS} {J : Int64} {E : UInt64} {d mc ms : Nat} {x y : Nat} {v : Nat} (h : nCR l G mX5_link d mc ms [.ref 0, zi x, zi y] S J E (some (zi v)) S1 J E) : wCR l G mL_link hhL_link (d + 1) mc ms [.ref 0, zi x, zi y] S J E (some (zi v)) S1 J E := by
  refine wCR.of hl (by decide) rfl (Nat.le_of_ble_eq_true rfl) (ls := [some (.ref 0), some (zi x), some (zi y), none]) rfl (fun X C W hF hX => ?_)
  subst hX
  refine sw_aload_0 C dL_link_0 ?_
  refine sw_iload_1 C dL_link_1 ?_
  refine sw_iload_2 C dL_link_2 ?_
  refine sn_cV2r C vX5_link lL_17 rfl (by decide) rfl rfl dL_link_3 (Nat.le_of_ble_eq_true rfl) h (Nat.le_refl _) (by omega) (by omega) ?_
  exact sn_iret C rfl hF dL_link_6 (by omega) (by omega) rfl rfl rfl rfl
theorem eL_link_1 : wSel RL "java/lang/IndexOutOfBoundsException" hhL_link 3 7 := ⟨(tableOf hhL_link).take 0, (tableOf hhL_link).get ⟨0, by decide⟩, (tableOf hhL_link).drop 1, rfl, (fun z hz => by cases hz), by decide, by decide, rfl, "java/lang/IndexOutOfBoundsException", qL_20, qC_IndexOutOfBoundsException⟩
set_option maxHeartbeats 1000000 in
theorem tL_link_1 {l : Launch} (hl : l.stackTraces = false) {G : zG} {S S1 : zS} {J : Int64} {E : UInt64} {d mc ms : Nat} {x y : Nat} (h : nCT l G mX5_link d mc ms [.ref 0, zi x, zi y] S J E "java/lang/IndexOutOfBoundsException" S1 J E) : wCR l G mL_link hhL_link (d + 1) mc ms [.ref 0, zi x, zi y] S J E (some (zi 4294967295)) S1 J E := by
  refine wCR.of hl (by decide) rfl (Nat.le_of_ble_eq_true rfl) (ls := [some (.ref 0), some (zi x), some (zi y), none]) rfl (fun X C W hF hX => ?_)
  subst hX
  refine sw_aload_0 C dL_link_0 ?_
  refine sw_iload_1 C dL_link_1 ?_
  refine sw_iload_2 C dL_link_2 ?_
  refine sw_callV_C (as := [zi x, zi y]) (st := []) (i := 3) (hpc := 7) (len := 1) C W vX5_link kL_17 rfl (by decide) rfl rfl dL_link_3 rfl (Nat.le_of_ble_eq_true rfl) h (Nat.le_refl _) (by omega) (by omega) eL_link_1 (Nat.le_of_ble_eq_true rfl) (fun u hu => by cases hu; rfl) (Or.inr ⟨3, rfl, dL_link_7, rfl⟩) (ls' := [some (.ref 0), some (zi x), some (zi y), none]) rfl ?_
  refine sn_iconst C 4294967295 (by decide) dL_link_8 ?_
  exact sn_iret C rfl hF dL_link_9 (by omega) (by omega) rfl rfl rfl rfl
theorem eL_link_2 : wSel RL "java/lang/IllegalArgumentException" hhL_link 3 10 := ⟨(tableOf hhL_link).take 1, (tableOf hhL_link).get ⟨1, by decide⟩, (tableOf hhL_link).drop 2, rfl, (fun z hz => by rcases List.mem_singleton.mp hz with rfl; exact ⟨by decide, "java/lang/IndexOutOfBoundsException", qL_20, by decide +kernel⟩), by decide, by decide, rfl, "java/lang/IllegalArgumentException", qL_13, qC_IllegalArgumentException⟩
set_option maxHeartbeats 1000000 in
theorem tL_link_2 {l : Launch} (hl : l.stackTraces = false) {G : zG} {S S1 : zS} {J : Int64} {E : UInt64} {d mc ms : Nat} {x y : Nat} (h : nCT l G mX5_link d mc ms [.ref 0, zi x, zi y] S J E "java/lang/IllegalArgumentException" S1 J E) : wCR l G mL_link hhL_link (d + 1) mc ms [.ref 0, zi x, zi y] S J E (some (zi 4294967294)) S1 J E := by
  refine wCR.of hl (by decide) rfl (Nat.le_of_ble_eq_true rfl) (ls := [some (.ref 0), some (zi x), some (zi y), none]) rfl (fun X C W hF hX => ?_)
  subst hX
  refine sw_aload_0 C dL_link_0 ?_
  refine sw_iload_1 C dL_link_1 ?_
  refine sw_iload_2 C dL_link_2 ?_
  refine sw_callV_C (as := [zi x, zi y]) (st := []) (i := 3) (hpc := 10) (len := 1) C W vX5_link kL_17 rfl (by decide) rfl rfl dL_link_3 rfl (Nat.le_of_ble_eq_true rfl) h (Nat.le_refl _) (by omega) (by omega) eL_link_2 (Nat.le_of_ble_eq_true rfl) (fun u hu => by cases hu; rfl) (Or.inr ⟨3, rfl, dL_link_10, rfl⟩) (ls' := [some (.ref 0), some (zi x), some (zi y), none]) rfl ?_
  refine sn_bipush C 4294967294 (by decide) dL_link_11 ?_
  exact sn_iret C rfl hF dL_link_13 (by omega) (by omega) rfl rfl rfl rfl
theorem eL_link_3 : wSel RL "java/lang/IllegalStateException" hhL_link 3 14 := ⟨(tableOf hhL_link).take 2, (tableOf hhL_link).get ⟨2, by decide⟩, (tableOf hhL_link).drop 3, rfl, (fun z hz => by
    rcases List.mem_cons.mp hz with rfl | hz
    · exact ⟨by decide, "java/lang/IndexOutOfBoundsException", qL_20, by decide +kernel⟩
    · rcases List.mem_singleton.mp hz with rfl; exact ⟨by decide, "java/lang/IllegalArgumentException", qL_13, by decide +kernel⟩), by decide, by decide, rfl, "java/lang/IllegalStateException", qL_15, qC_IllegalStateException⟩
set_option maxHeartbeats 1000000 in
theorem tL_link_3 {l : Launch} (hl : l.stackTraces = false) {G : zG} {S S1 : zS} {J : Int64} {E : UInt64} {d mc ms : Nat} {x y : Nat} (h : nCT l G mX5_link d mc ms [.ref 0, zi x, zi y] S J E "java/lang/IllegalStateException" S1 J E) : wCR l G mL_link hhL_link (d + 1) mc ms [.ref 0, zi x, zi y] S J E (some (zi 4294967293)) S1 J E := by
  refine wCR.of hl (by decide) rfl (Nat.le_of_ble_eq_true rfl) (ls := [some (.ref 0), some (zi x), some (zi y), none]) rfl (fun X C W hF hX => ?_)
  subst hX
  refine sw_aload_0 C dL_link_0 ?_
  refine sw_iload_1 C dL_link_1 ?_
  refine sw_iload_2 C dL_link_2 ?_
  refine sw_callV_C (as := [zi x, zi y]) (st := []) (i := 3) (hpc := 14) (len := 1) C W vX5_link kL_17 rfl (by decide) rfl rfl dL_link_3 rfl (Nat.le_of_ble_eq_true rfl) h (Nat.le_refl _) (by omega) (by omega) eL_link_3 (Nat.le_of_ble_eq_true rfl) (fun u hu => by cases hu; rfl) (Or.inr ⟨3, rfl, dL_link_14, rfl⟩) (ls' := [some (.ref 0), some (zi x), some (zi y), none]) rfl ?_
  refine sn_bipush C 4294967293 (by decide) dL_link_15 ?_
  exact sn_iret C rfl hF dL_link_17 (by omega) (by omega) rfl rfl rfl rfl
abbrev hhL_startRumour : zHh := [(0, 6, 7, 20), (0, 6, 10, 13), (0, 6, 14, 15)]
theorem wL_startRumour : Cond.codeWith mL_startRumour.1 mL_startRumour.2.1 mL_startRumour.2.2.1 mL_startRumour.2.2.2 hhL_startRumour ∈ lw_tbl := (List.mem_of_getElem? (i := 699) (by decide +kernel))
theorem sL_startRumour : Cond.static mL_startRumour.1 ∈ lw_tbl := (List.mem_of_getElem? (i := 698) (by decide +kernel))
set_option maxHeartbeats 1000000 in
theorem rL_startRumour {l : Launch} (hl : l.stackTraces = false) {G : zG} {S S1 : zS} {J : Int64} {E : UInt64} {d mc ms : Nat} {x y : Nat} {v : Nat} (h : nCR l G mX5_startRumour d mc ms [.ref 0, zi x, zi y] S J E (some (zi v)) S1 J E) : wCR l G mL_startRumour hhL_startRumour (d + 1) mc ms [.ref 0, zi x, zi y] S J E (some (zi v)) S1 J E := by
  refine wCR.of hl (by decide) rfl (Nat.le_of_ble_eq_true rfl) (ls := [some (.ref 0), some (zi x), some (zi y), none]) rfl (fun X C W hF hX => ?_)
  subst hX
  refine sw_aload_0 C dL_startRumour_0 ?_
  refine sw_iload_1 C dL_startRumour_1 ?_
  refine sw_iload_2 C dL_startRumour_2 ?_
  refine sn_cV2r C vX5_startRumour lL_30 rfl (by decide) rfl rfl dL_startRumour_3 (Nat.le_of_ble_eq_true rfl) h (Nat.le_refl _) (by omega) (by omega) ?_
  exact sn_iret C rfl hF dL_startRumour_6 (by omega) (by omega) rfl rfl rfl rfl
theorem eL_startRumour_1 : wSel RL "java/lang/IndexOutOfBoundsException" hhL_startRumour 3 7 := ⟨(tableOf hhL_startRumour).take 0, (tableOf hhL_startRumour).get ⟨0, by decide⟩, (tableOf hhL_startRumour).drop 1, rfl, (fun z hz => by cases hz), by decide, by decide, rfl, "java/lang/IndexOutOfBoundsException", qL_20, qC_IndexOutOfBoundsException⟩
set_option maxHeartbeats 1000000 in
theorem tL_startRumour_1 {l : Launch} (hl : l.stackTraces = false) {G : zG} {S S1 : zS} {J : Int64} {E : UInt64} {d mc ms : Nat} {x y : Nat} (h : nCT l G mX5_startRumour d mc ms [.ref 0, zi x, zi y] S J E "java/lang/IndexOutOfBoundsException" S1 J E) : wCR l G mL_startRumour hhL_startRumour (d + 1) mc ms [.ref 0, zi x, zi y] S J E (some (zi 4294967295)) S1 J E := by
  refine wCR.of hl (by decide) rfl (Nat.le_of_ble_eq_true rfl) (ls := [some (.ref 0), some (zi x), some (zi y), none]) rfl (fun X C W hF hX => ?_)
  subst hX
  refine sw_aload_0 C dL_startRumour_0 ?_
  refine sw_iload_1 C dL_startRumour_1 ?_
  refine sw_iload_2 C dL_startRumour_2 ?_
  refine sw_callV_C (as := [zi x, zi y]) (st := []) (i := 3) (hpc := 7) (len := 1) C W vX5_startRumour kL_30 rfl (by decide) rfl rfl dL_startRumour_3 rfl (Nat.le_of_ble_eq_true rfl) h (Nat.le_refl _) (by omega) (by omega) eL_startRumour_1 (Nat.le_of_ble_eq_true rfl) (fun u hu => by cases hu; rfl) (Or.inr ⟨3, rfl, dL_startRumour_7, rfl⟩) (ls' := [some (.ref 0), some (zi x), some (zi y), none]) rfl ?_
  refine sn_iconst C 4294967295 (by decide) dL_startRumour_8 ?_
  exact sn_iret C rfl hF dL_startRumour_9 (by omega) (by omega) rfl rfl rfl rfl
theorem eL_startRumour_2 : wSel RL "java/lang/IllegalArgumentException" hhL_startRumour 3 10 := ⟨(tableOf hhL_startRumour).take 1, (tableOf hhL_startRumour).get ⟨1, by decide⟩, (tableOf hhL_startRumour).drop 2, rfl, (fun z hz => by rcases List.mem_singleton.mp hz with rfl; exact ⟨by decide, "java/lang/IndexOutOfBoundsException", qL_20, by decide +kernel⟩), by decide, by decide, rfl, "java/lang/IllegalArgumentException", qL_13, qC_IllegalArgumentException⟩
set_option maxHeartbeats 1000000 in
theorem tL_startRumour_2 {l : Launch} (hl : l.stackTraces = false) {G : zG} {S S1 : zS} {J : Int64} {E : UInt64} {d mc ms : Nat} {x y : Nat} (h : nCT l G mX5_startRumour d mc ms [.ref 0, zi x, zi y] S J E "java/lang/IllegalArgumentException" S1 J E) : wCR l G mL_startRumour hhL_startRumour (d + 1) mc ms [.ref 0, zi x, zi y] S J E (some (zi 4294967294)) S1 J E := by
  refine wCR.of hl (by decide) rfl (Nat.le_of_ble_eq_true rfl) (ls := [some (.ref 0), some (zi x), some (zi y), none]) rfl (fun X C W hF hX => ?_)
  subst hX
  refine sw_aload_0 C dL_startRumour_0 ?_
  refine sw_iload_1 C dL_startRumour_1 ?_
  refine sw_iload_2 C dL_startRumour_2 ?_
  refine sw_callV_C (as := [zi x, zi y]) (st := []) (i := 3) (hpc := 10) (len := 1) C W vX5_startRumour kL_30 rfl (by decide) rfl rfl dL_startRumour_3 rfl (Nat.le_of_ble_eq_true rfl) h (Nat.le_refl _) (by omega) (by omega) eL_startRumour_2 (Nat.le_of_ble_eq_true rfl) (fun u hu => by cases hu; rfl) (Or.inr ⟨3, rfl, dL_startRumour_10, rfl⟩) (ls' := [some (.ref 0), some (zi x), some (zi y), none]) rfl ?_
  refine sn_bipush C 4294967294 (by decide) dL_startRumour_11 ?_
  exact sn_iret C rfl hF dL_startRumour_13 (by omega) (by omega) rfl rfl rfl rfl
theorem eL_startRumour_3 : wSel RL "java/lang/IllegalStateException" hhL_startRumour 3 14 := ⟨(tableOf hhL_startRumour).take 2, (tableOf hhL_startRumour).get ⟨2, by decide⟩, (tableOf hhL_startRumour).drop 3, rfl, (fun z hz => by
    rcases List.mem_cons.mp hz with rfl | hz
    · exact ⟨by decide, "java/lang/IndexOutOfBoundsException", qL_20, by decide +kernel⟩
    · rcases List.mem_singleton.mp hz with rfl; exact ⟨by decide, "java/lang/IllegalArgumentException", qL_13, by decide +kernel⟩), by decide, by decide, rfl, "java/lang/IllegalStateException", qL_15, qC_IllegalStateException⟩
set_option maxHeartbeats 1000000 in
theorem tL_startRumour_3 {l : Launch} (hl : l.stackTraces = false) {G : zG} {S S1 : zS} {J : Int64} {E : UInt64} {d mc ms : Nat} {x y : Nat} (h : nCT l G mX5_startRumour d mc ms [.ref 0, zi x, zi y] S J E "java/lang/IllegalStateException" S1 J E) : wCR l G mL_startRumour hhL_startRumour (d + 1) mc ms [.ref 0, zi x, zi y] S J E (some (zi 4294967293)) S1 J E := by
  refine wCR.of hl (by decide) rfl (Nat.le_of_ble_eq_true rfl) (ls := [some (.ref 0), some (zi x), some (zi y), none]) rfl (fun X C W hF hX => ?_)
  subst hX
  refine sw_aload_0 C dL_startRumour_0 ?_
  refine sw_iload_1 C dL_startRumour_1 ?_
  refine sw_iload_2 C dL_startRumour_2 ?_
  refine sw_callV_C (as := [zi x, zi y]) (st := []) (i := 3) (hpc := 14) (len := 1) C W vX5_startRumour kL_30 rfl (by decide) rfl rfl dL_startRumour_3 rfl (Nat.le_of_ble_eq_true rfl) h (Nat.le_refl _) (by omega) (by omega) eL_startRumour_3 (Nat.le_of_ble_eq_true rfl) (fun u hu => by cases hu; rfl) (Or.inr ⟨3, rfl, dL_startRumour_14, rfl⟩) (ls' := [some (.ref 0), some (zi x), some (zi y), none]) rfl ?_
  refine sn_bipush C 4294967293 (by decide) dL_startRumour_15 ?_
  exact sn_iret C rfl hF dL_startRumour_17 (by omega) (by omega) rfl rfl rfl rfl
abbrev hhL_check : zHh := [(0, 14, 15, 20), (0, 14, 18, 15)]
theorem wL_check : Cond.codeWith mL_check.1 mL_check.2.1 mL_check.2.2.1 mL_check.2.2.2 hhL_check ∈ lw_tbl := (List.mem_of_getElem? (i := 706) (by decide +kernel))
theorem sL_check : Cond.static mL_check.1 ∈ lw_tbl := (List.mem_of_getElem? (i := 705) (by decide +kernel))
set_option maxHeartbeats 1000000 in
theorem rL_check {l : Launch} (hl : l.stackTraces = false) {G : zG} {S S1 : zS} {J : Int64} {E : UInt64} {d mc ms : Nat} {x y : Nat} {q : Bool} (h : nCR l G mX5_check d mc ms [.ref 0, zi x, zi y] S J E (some (zi q.toNat)) S1 J E) : wCR l G mL_check hhL_check (d + 1) mc ms [.ref 0, zi x, zi y] S J E (some (zi q.toNat)) S1 J E := by
  refine wCR.of hl (by decide) rfl (Nat.le_of_ble_eq_true rfl) (ls := [some (.ref 0), some (zi x), some (zi y), none]) rfl (fun X C W hF hX => ?_)
  subst hX
  refine sw_aload_0 C dL_check_0 ?_
  refine sw_iload_1 C dL_check_1 ?_
  refine sw_iload_2 C dL_check_2 ?_
  refine sn_cV2r C vX5_check lL_33 rfl (by decide) rfl rfl dL_check_3 (Nat.le_of_ble_eq_true rfl) h (Nat.le_refl _) (by omega) (by omega) ?_
  refine sw_if_eq C 13 dL_check_6 (by decide) (fun c => ?_) (fun c => ?_)
  · refine sn_iconst C 0 (by decide) dL_check_13 ?_
    exact sn_iret C rfl hF dL_check_14 (by omega) (by omega) (by cases q <;> first | rfl | exact absurd c (by decide)) rfl rfl rfl
  · refine sn_iconst C 1 (by decide) dL_check_9 ?_
    refine sw_goto C 14 dL_check_10 (by decide) ?_
    exact sn_iret C rfl hF dL_check_14 (by omega) (by omega) (by cases q <;> first | rfl | exact absurd rfl c) rfl rfl rfl
theorem eL_check_1 : wSel RL "java/lang/IndexOutOfBoundsException" hhL_check 3 15 := ⟨(tableOf hhL_check).take 0, (tableOf hhL_check).get ⟨0, by decide⟩, (tableOf hhL_check).drop 1, rfl, (fun z hz => by cases hz), by decide, by decide, rfl, "java/lang/IndexOutOfBoundsException", qL_20, qC_IndexOutOfBoundsException⟩
set_option maxHeartbeats 1000000 in
theorem tL_check_1 {l : Launch} (hl : l.stackTraces = false) {G : zG} {S S1 : zS} {J : Int64} {E : UInt64} {d mc ms : Nat} {x y : Nat} (h : nCT l G mX5_check d mc ms [.ref 0, zi x, zi y] S J E "java/lang/IndexOutOfBoundsException" S1 J E) : wCR l G mL_check hhL_check (d + 1) mc ms [.ref 0, zi x, zi y] S J E (some (zi 4294967295)) S1 J E := by
  refine wCR.of hl (by decide) rfl (Nat.le_of_ble_eq_true rfl) (ls := [some (.ref 0), some (zi x), some (zi y), none]) rfl (fun X C W hF hX => ?_)
  subst hX
  refine sw_aload_0 C dL_check_0 ?_
  refine sw_iload_1 C dL_check_1 ?_
  refine sw_iload_2 C dL_check_2 ?_
  refine sw_callV_C (as := [zi x, zi y]) (st := []) (i := 3) (hpc := 15) (len := 1) C W vX5_check kL_33 rfl (by decide) rfl rfl dL_check_3 rfl (Nat.le_of_ble_eq_true rfl) h (Nat.le_refl _) (by omega) (by omega) eL_check_1 (Nat.le_of_ble_eq_true rfl) (fun u hu => by cases hu; rfl) (Or.inr ⟨3, rfl, dL_check_15, rfl⟩) (ls' := [some (.ref 0), some (zi x), some (zi y), none]) rfl ?_
  refine sn_iconst C 4294967295 (by decide) dL_check_16 ?_
  exact sn_iret C rfl hF dL_check_17 (by omega) (by omega) rfl rfl rfl rfl
theorem eL_check_2 : wSel RL "java/lang/IllegalStateException" hhL_check 3 18 := ⟨(tableOf hhL_check).take 1, (tableOf hhL_check).get ⟨1, by decide⟩, (tableOf hhL_check).drop 2, rfl, (fun z hz => by rcases List.mem_singleton.mp hz with rfl; exact ⟨by decide, "java/lang/IndexOutOfBoundsException", qL_20, by decide +kernel⟩), by decide, by decide, rfl, "java/lang/IllegalStateException", qL_15, qC_IllegalStateException⟩
set_option maxHeartbeats 1000000 in
theorem tL_check_2 {l : Launch} (hl : l.stackTraces = false) {G : zG} {S S1 : zS} {J : Int64} {E : UInt64} {d mc ms : Nat} {x y : Nat} (h : nCT l G mX5_check d mc ms [.ref 0, zi x, zi y] S J E "java/lang/IllegalStateException" S1 J E) : wCR l G mL_check hhL_check (d + 1) mc ms [.ref 0, zi x, zi y] S J E (some (zi 4294967294)) S1 J E := by
  refine wCR.of hl (by decide) rfl (Nat.le_of_ble_eq_true rfl) (ls := [some (.ref 0), some (zi x), some (zi y), none]) rfl (fun X C W hF hX => ?_)
  subst hX
  refine sw_aload_0 C dL_check_0 ?_
  refine sw_iload_1 C dL_check_1 ?_
  refine sw_iload_2 C dL_check_2 ?_
  refine sw_callV_C (as := [zi x, zi y]) (st := []) (i := 3) (hpc := 18) (len := 1) C W vX5_check kL_33 rfl (by decide) rfl rfl dL_check_3 rfl (Nat.le_of_ble_eq_true rfl) h (Nat.le_refl _) (by omega) (by omega) eL_check_2 (Nat.le_of_ble_eq_true rfl) (fun u hu => by cases hu; rfl) (Or.inr ⟨3, rfl, dL_check_18, rfl⟩) (ls' := [some (.ref 0), some (zi x), some (zi y), none]) rfl ?_
  refine sn_bipush C 4294967294 (by decide) dL_check_19 ?_
  exact sn_iret C rfl hF dL_check_21 (by omega) (by omega) rfl rfl rfl rfl
abbrev hhL_deny : zHh := [(0, 5, 6, 20), (0, 5, 9, 15)]
theorem wL_deny : Cond.codeWith mL_deny.1 mL_deny.2.1 mL_deny.2.2.1 mL_deny.2.2.2 hhL_deny ∈ lw_tbl := (List.mem_of_getElem? (i := 713) (by decide +kernel))
theorem sL_deny : Cond.static mL_deny.1 ∈ lw_tbl := (List.mem_of_getElem? (i := 712) (by decide +kernel))
set_option maxHeartbeats 1000000 in
theorem rL_deny {l : Launch} (hl : l.stackTraces = false) {G : zG} {S S1 : zS} {J : Int64} {E : UInt64} {d mc ms : Nat} {x : Nat} {v : Nat} (h : nCR l G mX5_deny d mc ms [.ref 0, zi x] S J E (some (zi v)) S1 J E) : wCR l G mL_deny hhL_deny (d + 1) mc ms [.ref 0, zi x] S J E (some (zi v)) S1 J E := by
  refine wCR.of hl (by decide) rfl (Nat.le_of_ble_eq_true rfl) (ls := [some (.ref 0), some (zi x), none]) rfl (fun X C W hF hX => ?_)
  subst hX
  refine sw_aload_0 C dL_deny_0 ?_
  refine sw_iload_1 C dL_deny_1 ?_
  refine sn_cV1r C vX5_deny lL_37 rfl (by decide) rfl rfl dL_deny_2 (Nat.le_of_ble_eq_true rfl) h (Nat.le_refl _) (by omega) (by omega) ?_
  exact sn_iret C rfl hF dL_deny_5 (by omega) (by omega) rfl rfl rfl rfl
theorem eL_deny_1 : wSel RL "java/lang/IndexOutOfBoundsException" hhL_deny 2 6 := ⟨(tableOf hhL_deny).take 0, (tableOf hhL_deny).get ⟨0, by decide⟩, (tableOf hhL_deny).drop 1, rfl, (fun z hz => by cases hz), by decide, by decide, rfl, "java/lang/IndexOutOfBoundsException", qL_20, qC_IndexOutOfBoundsException⟩
set_option maxHeartbeats 1000000 in
theorem tL_deny_1 {l : Launch} (hl : l.stackTraces = false) {G : zG} {S S1 : zS} {J : Int64} {E : UInt64} {d mc ms : Nat} {x : Nat} (h : nCT l G mX5_deny d mc ms [.ref 0, zi x] S J E "java/lang/IndexOutOfBoundsException" S1 J E) : wCR l G mL_deny hhL_deny (d + 1) mc ms [.ref 0, zi x] S J E (some (zi 4294967295)) S1 J E := by
  refine wCR.of hl (by decide) rfl (Nat.le_of_ble_eq_true rfl) (ls := [some (.ref 0), some (zi x), none]) rfl (fun X C W hF hX => ?_)
  subst hX
  refine sw_aload_0 C dL_deny_0 ?_
  refine sw_iload_1 C dL_deny_1 ?_
  refine sw_callV_C (as := [zi x]) (st := []) (i := 2) (hpc := 6) (len := 1) C W vX5_deny kL_37 rfl (by decide) rfl rfl dL_deny_2 rfl (Nat.le_of_ble_eq_true rfl) h (Nat.le_refl _) (by omega) (by omega) eL_deny_1 (Nat.le_of_ble_eq_true rfl) (fun u hu => by cases hu; rfl) (Or.inr ⟨2, rfl, dL_deny_6, rfl⟩) (ls' := [some (.ref 0), some (zi x), none]) rfl ?_
  refine sn_iconst C 4294967295 (by decide) dL_deny_7 ?_
  exact sn_iret C rfl hF dL_deny_8 (by omega) (by omega) rfl rfl rfl rfl
theorem eL_deny_2 : wSel RL "java/lang/IllegalStateException" hhL_deny 2 9 := ⟨(tableOf hhL_deny).take 1, (tableOf hhL_deny).get ⟨1, by decide⟩, (tableOf hhL_deny).drop 2, rfl, (fun z hz => by rcases List.mem_singleton.mp hz with rfl; exact ⟨by decide, "java/lang/IndexOutOfBoundsException", qL_20, by decide +kernel⟩), by decide, by decide, rfl, "java/lang/IllegalStateException", qL_15, qC_IllegalStateException⟩
set_option maxHeartbeats 1000000 in
theorem tL_deny_2 {l : Launch} (hl : l.stackTraces = false) {G : zG} {S S1 : zS} {J : Int64} {E : UInt64} {d mc ms : Nat} {x : Nat} (h : nCT l G mX5_deny d mc ms [.ref 0, zi x] S J E "java/lang/IllegalStateException" S1 J E) : wCR l G mL_deny hhL_deny (d + 1) mc ms [.ref 0, zi x] S J E (some (zi 4294967294)) S1 J E := by
  refine wCR.of hl (by decide) rfl (Nat.le_of_ble_eq_true rfl) (ls := [some (.ref 0), some (zi x), none]) rfl (fun X C W hF hX => ?_)
  subst hX
  refine sw_aload_0 C dL_deny_0 ?_
  refine sw_iload_1 C dL_deny_1 ?_
  refine sw_callV_C (as := [zi x]) (st := []) (i := 2) (hpc := 9) (len := 1) C W vX5_deny kL_37 rfl (by decide) rfl rfl dL_deny_2 rfl (Nat.le_of_ble_eq_true rfl) h (Nat.le_refl _) (by omega) (by omega) eL_deny_2 (Nat.le_of_ble_eq_true rfl) (fun u hu => by cases hu; rfl) (Or.inr ⟨2, rfl, dL_deny_9, rfl⟩) (ls' := [some (.ref 0), some (zi x), none]) rfl ?_
  refine sn_bipush C 4294967294 (by decide) dL_deny_10 ?_
  exact sn_iret C rfl hF dL_deny_12 (by omega) (by omega) rfl rfl rfl rfl
abbrev hhL_advance : zHh := [(0, 5, 6, 13)]
theorem wL_advance : Cond.codeWith mL_advance.1 mL_advance.2.1 mL_advance.2.2.1 mL_advance.2.2.2 hhL_advance ∈ lw_tbl := (List.mem_of_getElem? (i := 720) (by decide +kernel))
theorem sL_advance : Cond.static mL_advance.1 ∈ lw_tbl := (List.mem_of_getElem? (i := 719) (by decide +kernel))
set_option maxHeartbeats 1000000 in
theorem rL_advance {l : Launch} (hl : l.stackTraces = false) {G : zG} {S S1 : zS} {J : Int64} {E : UInt64} {d mc ms : Nat} {x : Nat} {v : Nat} (h : nCR l G mX5_advance d mc ms [.ref 0, zi x] S J E (some (zi v)) S1 J E) : wCR l G mL_advance hhL_advance (d + 1) mc ms [.ref 0, zi x] S J E (some (zi v)) S1 J E := by
  refine wCR.of hl (by decide) rfl (Nat.le_of_ble_eq_true rfl) (ls := [some (.ref 0), some (zi x), none]) rfl (fun X C W hF hX => ?_)
  subst hX
  refine sw_aload_0 C dL_advance_0 ?_
  refine sw_iload_1 C dL_advance_1 ?_
  refine sn_cV1r C vX5_advance lL_44 rfl (by decide) rfl rfl dL_advance_2 (Nat.le_of_ble_eq_true rfl) h (Nat.le_refl _) (by omega) (by omega) ?_
  exact sn_iret C rfl hF dL_advance_5 (by omega) (by omega) rfl rfl rfl rfl
theorem eL_advance_1 : wSel RL "java/lang/IllegalArgumentException" hhL_advance 2 6 := ⟨(tableOf hhL_advance).take 0, (tableOf hhL_advance).get ⟨0, by decide⟩, (tableOf hhL_advance).drop 1, rfl, (fun z hz => by cases hz), by decide, by decide, rfl, "java/lang/IllegalArgumentException", qL_13, qC_IllegalArgumentException⟩
set_option maxHeartbeats 1000000 in
theorem tL_advance_1 {l : Launch} (hl : l.stackTraces = false) {G : zG} {S S1 : zS} {J : Int64} {E : UInt64} {d mc ms : Nat} {x : Nat} (h : nCT l G mX5_advance d mc ms [.ref 0, zi x] S J E "java/lang/IllegalArgumentException" S1 J E) : wCR l G mL_advance hhL_advance (d + 1) mc ms [.ref 0, zi x] S J E (some (zi 4294967295)) S1 J E := by
  refine wCR.of hl (by decide) rfl (Nat.le_of_ble_eq_true rfl) (ls := [some (.ref 0), some (zi x), none]) rfl (fun X C W hF hX => ?_)
  subst hX
  refine sw_aload_0 C dL_advance_0 ?_
  refine sw_iload_1 C dL_advance_1 ?_
  refine sw_callV_C (as := [zi x]) (st := []) (i := 2) (hpc := 6) (len := 1) C W vX5_advance kL_44 rfl (by decide) rfl rfl dL_advance_2 rfl (Nat.le_of_ble_eq_true rfl) h (Nat.le_refl _) (by omega) (by omega) eL_advance_1 (Nat.le_of_ble_eq_true rfl) (fun u hu => by cases hu; rfl) (Or.inr ⟨2, rfl, dL_advance_6, rfl⟩) (ls' := [some (.ref 0), some (zi x), none]) rfl ?_
  refine sn_iconst C 4294967295 (by decide) dL_advance_7 ?_
  exact sn_iret C rfl hF dL_advance_8 (by omega) (by omega) rfl rfl rfl rfl
abbrev hhL_rumourBySpread : zHh := [(0, 5, 6, 25)]
theorem wL_rumourBySpread : Cond.codeWith mL_rumourBySpread.1 mL_rumourBySpread.2.1 mL_rumourBySpread.2.2.1 mL_rumourBySpread.2.2.2 hhL_rumourBySpread ∈ lw_tbl := (List.mem_of_getElem? (i := 727) (by decide +kernel))
theorem sL_rumourBySpread : Cond.static mL_rumourBySpread.1 ∈ lw_tbl := (List.mem_of_getElem? (i := 726) (by decide +kernel))
set_option maxHeartbeats 1000000 in
theorem rL_rumourBySpread {l : Launch} (hl : l.stackTraces = false) {G : zG} {S S1 : zS} {J : Int64} {E : UInt64} {d mc ms : Nat} {x : Nat} {v : Nat} (h : nCR l G mX5_rumourBySpread d mc ms [.ref 0, zi x] S J E (some (zi v)) S1 J E) : wCR l G mL_rumourBySpread hhL_rumourBySpread (d + 1) mc ms [.ref 0, zi x] S J E (some (zi v)) S1 J E := by
  refine wCR.of hl (by decide) rfl (Nat.le_of_ble_eq_true rfl) (ls := [some (.ref 0), some (zi x), none]) rfl (fun X C W hF hX => ?_)
  subst hX
  refine sw_aload_0 C dL_rumourBySpread_0 ?_
  refine sw_iload_1 C dL_rumourBySpread_1 ?_
  refine sn_cV1r C vX5_rumourBySpread lL_108 rfl (by decide) rfl rfl dL_rumourBySpread_2 (Nat.le_of_ble_eq_true rfl) h (Nat.le_refl _) (by omega) (by omega) ?_
  exact sn_iret C rfl hF dL_rumourBySpread_5 (by omega) (by omega) rfl rfl rfl rfl
theorem eL_rumourBySpread_1 : wSel RL "java/util/NoSuchElementException" hhL_rumourBySpread 2 6 := ⟨(tableOf hhL_rumourBySpread).take 0, (tableOf hhL_rumourBySpread).get ⟨0, by decide⟩, (tableOf hhL_rumourBySpread).drop 1, rfl, (fun z hz => by cases hz), by decide, by decide, rfl, "java/util/NoSuchElementException", qL_25, qC_NoSuchElementException⟩
set_option maxHeartbeats 1000000 in
theorem tL_rumourBySpread_1 {l : Launch} (hl : l.stackTraces = false) {G : zG} {S S1 : zS} {J : Int64} {E : UInt64} {d mc ms : Nat} {x : Nat} (h : nCT l G mX5_rumourBySpread d mc ms [.ref 0, zi x] S J E "java/util/NoSuchElementException" S1 J E) : wCR l G mL_rumourBySpread hhL_rumourBySpread (d + 1) mc ms [.ref 0, zi x] S J E (some (zi 4294967295)) S1 J E := by
  refine wCR.of hl (by decide) rfl (Nat.le_of_ble_eq_true rfl) (ls := [some (.ref 0), some (zi x), none]) rfl (fun X C W hF hX => ?_)
  subst hX
  refine sw_aload_0 C dL_rumourBySpread_0 ?_
  refine sw_iload_1 C dL_rumourBySpread_1 ?_
  refine sw_callV_C (as := [zi x]) (st := []) (i := 2) (hpc := 6) (len := 1) C W vX5_rumourBySpread kL_108 rfl (by decide) rfl rfl dL_rumourBySpread_2 rfl (Nat.le_of_ble_eq_true rfl) h (Nat.le_refl _) (by omega) (by omega) eL_rumourBySpread_1 (Nat.le_of_ble_eq_true rfl) (fun u hu => by cases hu; rfl) (Or.inr ⟨2, rfl, dL_rumourBySpread_6, rfl⟩) (ls' := [some (.ref 0), some (zi x), none]) rfl ?_
  refine sn_iconst C 4294967295 (by decide) dL_rumourBySpread_7 ?_
  exact sn_iret C rfl hF dL_rumourBySpread_8 (by omega) (by omega) rfl rfl rfl rfl
abbrev hhL_meanDoubt : zHh := [(0, 4, 5, 118)]
theorem wL_meanDoubt : Cond.codeWith mL_meanDoubt.1 mL_meanDoubt.2.1 mL_meanDoubt.2.2.1 mL_meanDoubt.2.2.2 hhL_meanDoubt ∈ lw_tbl := (List.mem_of_getElem? (i := 746) (by decide +kernel))
theorem sL_meanDoubt : Cond.static mL_meanDoubt.1 ∈ lw_tbl := (List.mem_of_getElem? (i := 745) (by decide +kernel))
abbrev hhL_gossipShare : zHh := [(0, 4, 5, 118)]
theorem wL_gossipShare : Cond.codeWith mL_gossipShare.1 mL_gossipShare.2.1 mL_gossipShare.2.2.1 mL_gossipShare.2.2.2 hhL_gossipShare ∈ lw_tbl := (List.mem_of_getElem? (i := 775) (by decide +kernel))
theorem sL_gossipShare : Cond.static mL_gossipShare.1 ∈ lw_tbl := (List.mem_of_getElem? (i := 774) (by decide +kernel))
abbrev hhL_renderRumour : zHh := [(0, 5, 6, 20)]
theorem wL_renderRumour : Cond.codeWith mL_renderRumour.1 mL_renderRumour.2.1 mL_renderRumour.2.2.1 mL_renderRumour.2.2.2 hhL_renderRumour ∈ lw_tbl := (List.mem_of_getElem? (i := 788) (by decide +kernel))
theorem sL_renderRumour : Cond.static mL_renderRumour.1 ∈ lw_tbl := (List.mem_of_getElem? (i := 787) (by decide +kernel))
set_option maxHeartbeats 1000000 in
theorem rL_renderRumour {l : Launch} (hl : l.stackTraces = false) {G : zG} {S S1 : zS} {J : Int64} {E : UInt64} {d mc ms : Nat} {x : Nat} {v : Nat} (h : nCR l G mX5_renderRumour d mc ms [.ref 0, zi x] S J E (some (zi v)) S1 J E) : wCR l G mL_renderRumour hhL_renderRumour (d + 1) mc ms [.ref 0, zi x] S J E (some (zi v)) S1 J E := by
  refine wCR.of hl (by decide) rfl (Nat.le_of_ble_eq_true rfl) (ls := [some (.ref 0), some (zi x), none]) rfl (fun X C W hF hX => ?_)
  subst hX
  refine sw_aload_0 C dL_renderRumour_0 ?_
  refine sw_iload_1 C dL_renderRumour_1 ?_
  refine sn_cV1r C vX5_renderRumour lL_127 rfl (by decide) rfl rfl dL_renderRumour_2 (Nat.le_of_ble_eq_true rfl) h (Nat.le_refl _) (by omega) (by omega) ?_
  exact sn_iret C rfl hF dL_renderRumour_5 (by omega) (by omega) rfl rfl rfl rfl
theorem eL_renderRumour_1 : wSel RL "java/lang/IndexOutOfBoundsException" hhL_renderRumour 2 6 := ⟨(tableOf hhL_renderRumour).take 0, (tableOf hhL_renderRumour).get ⟨0, by decide⟩, (tableOf hhL_renderRumour).drop 1, rfl, (fun z hz => by cases hz), by decide, by decide, rfl, "java/lang/IndexOutOfBoundsException", qL_20, qC_IndexOutOfBoundsException⟩
set_option maxHeartbeats 1000000 in
theorem tL_renderRumour_1 {l : Launch} (hl : l.stackTraces = false) {G : zG} {S S1 : zS} {J : Int64} {E : UInt64} {d mc ms : Nat} {x : Nat} (h : nCT l G mX5_renderRumour d mc ms [.ref 0, zi x] S J E "java/lang/IndexOutOfBoundsException" S1 J E) : wCR l G mL_renderRumour hhL_renderRumour (d + 1) mc ms [.ref 0, zi x] S J E (some (zi 4294967295)) S1 J E := by
  refine wCR.of hl (by decide) rfl (Nat.le_of_ble_eq_true rfl) (ls := [some (.ref 0), some (zi x), none]) rfl (fun X C W hF hX => ?_)
  subst hX
  refine sw_aload_0 C dL_renderRumour_0 ?_
  refine sw_iload_1 C dL_renderRumour_1 ?_
  refine sw_callV_C (as := [zi x]) (st := []) (i := 2) (hpc := 6) (len := 1) C W vX5_renderRumour kL_127 rfl (by decide) rfl rfl dL_renderRumour_2 rfl (Nat.le_of_ble_eq_true rfl) h (Nat.le_refl _) (by omega) (by omega) eL_renderRumour_1 (Nat.le_of_ble_eq_true rfl) (fun u hu => by cases hu; rfl) (Or.inr ⟨2, rfl, dL_renderRumour_6, rfl⟩) (ls' := [some (.ref 0), some (zi x), none]) rfl ?_
  refine sn_iconst C 4294967295 (by decide) dL_renderRumour_7 ?_
  exact sn_iret C rfl hF dL_renderRumour_8 (by omega) (by omega) rfl rfl rfl rfl
abbrev hhL_renderHive : zHh := [(0, 5, 6, 20)]
theorem wL_renderHive : Cond.codeWith mL_renderHive.1 mL_renderHive.2.1 mL_renderHive.2.2.1 mL_renderHive.2.2.2 hhL_renderHive ∈ lw_tbl := (List.mem_of_getElem? (i := 1081) (by decide +kernel))
theorem sL_renderHive : Cond.static mL_renderHive.1 ∈ lw_tbl := (List.mem_of_getElem? (i := 1080) (by decide +kernel))
set_option maxHeartbeats 1000000 in
theorem rL_renderHive {l : Launch} (hl : l.stackTraces = false) {G : zG} {S S1 : zS} {J : Int64} {E : UInt64} {d mc ms : Nat} {x : Nat} {v : Nat} (h : nCR l G mX5_renderHive d mc ms [.ref 0, zi x] S J E (some (zi v)) S1 J E) : wCR l G mL_renderHive hhL_renderHive (d + 1) mc ms [.ref 0, zi x] S J E (some (zi v)) S1 J E := by
  refine wCR.of hl (by decide) rfl (Nat.le_of_ble_eq_true rfl) (ls := [some (.ref 0), some (zi x), none]) rfl (fun X C W hF hX => ?_)
  subst hX
  refine sw_aload_0 C dL_renderHive_0 ?_
  refine sw_iload_1 C dL_renderHive_1 ?_
  refine sn_cV1r C vX5_renderHive lL_130 rfl (by decide) rfl rfl dL_renderHive_2 (Nat.le_of_ble_eq_true rfl) h (Nat.le_refl _) (by omega) (by omega) ?_
  exact sn_iret C rfl hF dL_renderHive_5 (by omega) (by omega) rfl rfl rfl rfl
theorem eL_renderHive_1 : wSel RL "java/lang/IndexOutOfBoundsException" hhL_renderHive 2 6 := ⟨(tableOf hhL_renderHive).take 0, (tableOf hhL_renderHive).get ⟨0, by decide⟩, (tableOf hhL_renderHive).drop 1, rfl, (fun z hz => by cases hz), by decide, by decide, rfl, "java/lang/IndexOutOfBoundsException", qL_20, qC_IndexOutOfBoundsException⟩
set_option maxHeartbeats 1000000 in
theorem tL_renderHive_1 {l : Launch} (hl : l.stackTraces = false) {G : zG} {S S1 : zS} {J : Int64} {E : UInt64} {d mc ms : Nat} {x : Nat} (h : nCT l G mX5_renderHive d mc ms [.ref 0, zi x] S J E "java/lang/IndexOutOfBoundsException" S1 J E) : wCR l G mL_renderHive hhL_renderHive (d + 1) mc ms [.ref 0, zi x] S J E (some (zi 4294967295)) S1 J E := by
  refine wCR.of hl (by decide) rfl (Nat.le_of_ble_eq_true rfl) (ls := [some (.ref 0), some (zi x), none]) rfl (fun X C W hF hX => ?_)
  subst hX
  refine sw_aload_0 C dL_renderHive_0 ?_
  refine sw_iload_1 C dL_renderHive_1 ?_
  refine sw_callV_C (as := [zi x]) (st := []) (i := 2) (hpc := 6) (len := 1) C W vX5_renderHive kL_130 rfl (by decide) rfl rfl dL_renderHive_2 rfl (Nat.le_of_ble_eq_true rfl) h (Nat.le_refl _) (by omega) (by omega) eL_renderHive_1 (Nat.le_of_ble_eq_true rfl) (fun u hu => by cases hu; rfl) (Or.inr ⟨2, rfl, dL_renderHive_6, rfl⟩) (ls' := [some (.ref 0), some (zi x), none]) rfl ?_
  refine sn_iconst C 4294967295 (by decide) dL_renderHive_7 ?_
  exact sn_iret C rfl hF dL_renderHive_8 (by omega) (by omega) rfl rfl rfl rfl
abbrev hhL_outputAt : zHh := [(0, 5, 6, 20)]
theorem wL_outputAt : Cond.codeWith mL_outputAt.1 mL_outputAt.2.1 mL_outputAt.2.2.1 mL_outputAt.2.2.2 hhL_outputAt ∈ lw_tbl := (List.mem_of_getElem? (i := 1095) (by decide +kernel))
theorem sL_outputAt : Cond.static mL_outputAt.1 ∈ lw_tbl := (List.mem_of_getElem? (i := 1094) (by decide +kernel))
set_option maxHeartbeats 1000000 in
theorem rL_outputAt {l : Launch} (hl : l.stackTraces = false) {G : zG} {S S1 : zS} {J : Int64} {E : UInt64} {d mc ms : Nat} {x : Nat} {v : Nat} (h : nCR l G mX5_outputAt d mc ms [.ref 0, zi x] S J E (some (zi v)) S1 J E) : wCR l G mL_outputAt hhL_outputAt (d + 1) mc ms [.ref 0, zi x] S J E (some (zi v)) S1 J E := by
  refine wCR.of hl (by decide) rfl (Nat.le_of_ble_eq_true rfl) (ls := [some (.ref 0), some (zi x), none]) rfl (fun X C W hF hX => ?_)
  subst hX
  refine sw_aload_0 C dL_outputAt_0 ?_
  refine sw_iload_1 C dL_outputAt_1 ?_
  refine sn_cV1r C vX5_outputAt lL_133 rfl (by decide) rfl rfl dL_outputAt_2 (Nat.le_of_ble_eq_true rfl) h (Nat.le_refl _) (by omega) (by omega) ?_
  exact sn_iret C rfl hF dL_outputAt_5 (by omega) (by omega) rfl rfl rfl rfl
theorem eL_outputAt_1 : wSel RL "java/lang/IndexOutOfBoundsException" hhL_outputAt 2 6 := ⟨(tableOf hhL_outputAt).take 0, (tableOf hhL_outputAt).get ⟨0, by decide⟩, (tableOf hhL_outputAt).drop 1, rfl, (fun z hz => by cases hz), by decide, by decide, rfl, "java/lang/IndexOutOfBoundsException", qL_20, qC_IndexOutOfBoundsException⟩
set_option maxHeartbeats 1000000 in
theorem tL_outputAt_1 {l : Launch} (hl : l.stackTraces = false) {G : zG} {S S1 : zS} {J : Int64} {E : UInt64} {d mc ms : Nat} {x : Nat} (h : nCT l G mX5_outputAt d mc ms [.ref 0, zi x] S J E "java/lang/IndexOutOfBoundsException" S1 J E) : wCR l G mL_outputAt hhL_outputAt (d + 1) mc ms [.ref 0, zi x] S J E (some (zi 4294967295)) S1 J E := by
  refine wCR.of hl (by decide) rfl (Nat.le_of_ble_eq_true rfl) (ls := [some (.ref 0), some (zi x), none]) rfl (fun X C W hF hX => ?_)
  subst hX
  refine sw_aload_0 C dL_outputAt_0 ?_
  refine sw_iload_1 C dL_outputAt_1 ?_
  refine sw_callV_C (as := [zi x]) (st := []) (i := 2) (hpc := 6) (len := 1) C W vX5_outputAt kL_133 rfl (by decide) rfl rfl dL_outputAt_2 rfl (Nat.le_of_ble_eq_true rfl) h (Nat.le_refl _) (by omega) (by omega) eL_outputAt_1 (Nat.le_of_ble_eq_true rfl) (fun u hu => by cases hu; rfl) (Or.inr ⟨2, rfl, dL_outputAt_6, rfl⟩) (ls' := [some (.ref 0), some (zi x), none]) rfl ?_
  refine sn_iconst C 4294967295 (by decide) dL_outputAt_7 ?_
  exact sn_iret C rfl hF dL_outputAt_8 (by omega) (by omega) rfl rfl rfl rfl
abbrev hhL_type : zHh := [(0, 5, 6, 13), (0, 5, 9, 15)]
theorem wL_type : Cond.codeWith mL_type.1 mL_type.2.1 mL_type.2.2.1 mL_type.2.2.2 hhL_type ∈ lw_tbl := (List.mem_of_getElem? (i := 1113) (by decide +kernel))
theorem sL_type : Cond.static mL_type.1 ∈ lw_tbl := (List.mem_of_getElem? (i := 1112) (by decide +kernel))
set_option maxHeartbeats 1000000 in
theorem rL_type {l : Launch} (hl : l.stackTraces = false) {G : zG} {S S1 : zS} {J : Int64} {E : UInt64} {d mc ms : Nat} {x : Nat} {v : Nat} (h : nCR l G mX5_type d mc ms [.ref 0, zi x] S J E (some (zi v)) S1 J E) : wCR l G mL_type hhL_type (d + 1) mc ms [.ref 0, zi x] S J E (some (zi v)) S1 J E := by
  refine wCR.of hl (by decide) rfl (Nat.le_of_ble_eq_true rfl) (ls := [some (.ref 0), some (zi x), none]) rfl (fun X C W hF hX => ?_)
  subst hX
  refine sw_aload_0 C dL_type_0 ?_
  refine sw_iload_1 C dL_type_1 ?_
  refine sn_cV1r C vX5_type lL_137 rfl (by decide) rfl rfl dL_type_2 (Nat.le_of_ble_eq_true rfl) h (Nat.le_refl _) (by omega) (by omega) ?_
  exact sn_iret C rfl hF dL_type_5 (by omega) (by omega) rfl rfl rfl rfl
theorem eL_type_1 : wSel RL "java/lang/IllegalArgumentException" hhL_type 2 6 := ⟨(tableOf hhL_type).take 0, (tableOf hhL_type).get ⟨0, by decide⟩, (tableOf hhL_type).drop 1, rfl, (fun z hz => by cases hz), by decide, by decide, rfl, "java/lang/IllegalArgumentException", qL_13, qC_IllegalArgumentException⟩
set_option maxHeartbeats 1000000 in
theorem tL_type_1 {l : Launch} (hl : l.stackTraces = false) {G : zG} {S S1 : zS} {J : Int64} {E : UInt64} {d mc ms : Nat} {x : Nat} (h : nCT l G mX5_type d mc ms [.ref 0, zi x] S J E "java/lang/IllegalArgumentException" S1 J E) : wCR l G mL_type hhL_type (d + 1) mc ms [.ref 0, zi x] S J E (some (zi 4294967295)) S1 J E := by
  refine wCR.of hl (by decide) rfl (Nat.le_of_ble_eq_true rfl) (ls := [some (.ref 0), some (zi x), none]) rfl (fun X C W hF hX => ?_)
  subst hX
  refine sw_aload_0 C dL_type_0 ?_
  refine sw_iload_1 C dL_type_1 ?_
  refine sw_callV_C (as := [zi x]) (st := []) (i := 2) (hpc := 6) (len := 1) C W vX5_type kL_137 rfl (by decide) rfl rfl dL_type_2 rfl (Nat.le_of_ble_eq_true rfl) h (Nat.le_refl _) (by omega) (by omega) eL_type_1 (Nat.le_of_ble_eq_true rfl) (fun u hu => by cases hu; rfl) (Or.inr ⟨2, rfl, dL_type_6, rfl⟩) (ls' := [some (.ref 0), some (zi x), none]) rfl ?_
  refine sn_iconst C 4294967295 (by decide) dL_type_7 ?_
  exact sn_iret C rfl hF dL_type_8 (by omega) (by omega) rfl rfl rfl rfl
theorem eL_type_2 : wSel RL "java/lang/IllegalStateException" hhL_type 2 9 := ⟨(tableOf hhL_type).take 1, (tableOf hhL_type).get ⟨1, by decide⟩, (tableOf hhL_type).drop 2, rfl, (fun z hz => by rcases List.mem_singleton.mp hz with rfl; exact ⟨by decide, "java/lang/IllegalArgumentException", qL_13, by decide +kernel⟩), by decide, by decide, rfl, "java/lang/IllegalStateException", qL_15, qC_IllegalStateException⟩
set_option maxHeartbeats 1000000 in
theorem tL_type_2 {l : Launch} (hl : l.stackTraces = false) {G : zG} {S S1 : zS} {J : Int64} {E : UInt64} {d mc ms : Nat} {x : Nat} (h : nCT l G mX5_type d mc ms [.ref 0, zi x] S J E "java/lang/IllegalStateException" S1 J E) : wCR l G mL_type hhL_type (d + 1) mc ms [.ref 0, zi x] S J E (some (zi 4294967294)) S1 J E := by
  refine wCR.of hl (by decide) rfl (Nat.le_of_ble_eq_true rfl) (ls := [some (.ref 0), some (zi x), none]) rfl (fun X C W hF hX => ?_)
  subst hX
  refine sw_aload_0 C dL_type_0 ?_
  refine sw_iload_1 C dL_type_1 ?_
  refine sw_callV_C (as := [zi x]) (st := []) (i := 2) (hpc := 9) (len := 1) C W vX5_type kL_137 rfl (by decide) rfl rfl dL_type_2 rfl (Nat.le_of_ble_eq_true rfl) h (Nat.le_refl _) (by omega) (by omega) eL_type_2 (Nat.le_of_ble_eq_true rfl) (fun u hu => by cases hu; rfl) (Or.inr ⟨2, rfl, dL_type_9, rfl⟩) (ls' := [some (.ref 0), some (zi x), none]) rfl ?_
  refine sn_bipush C 4294967294 (by decide) dL_type_10 ?_
  exact sn_iret C rfl hF dL_type_12 (by omega) (by omega) rfl rfl rfl rfl
abbrev hhL_runScript : zHh := [(0, 4, 5, 13), (0, 4, 8, 15)]
theorem wL_runScript : Cond.codeWith mL_runScript.1 mL_runScript.2.1 mL_runScript.2.2.1 mL_runScript.2.2.2 hhL_runScript ∈ lw_tbl := (List.mem_of_getElem? (i := 1126) (by decide +kernel))
theorem sL_runScript : Cond.static mL_runScript.1 ∈ lw_tbl := (List.mem_of_getElem? (i := 1125) (by decide +kernel))
set_option maxHeartbeats 1000000 in
theorem rL_runScript {l : Launch} (hl : l.stackTraces = false) {G : zG} {S S1 : zS} {J : Int64} {E : UInt64} {d mc ms : Nat} {v : Nat} (h : nCR l G mX5_runScript d mc ms [.ref 0] S J E (some (zi v)) S1 J E) : wCR l G mL_runScript hhL_runScript (d + 1) mc ms [.ref 0] S J E (some (zi v)) S1 J E := by
  refine wCR.of hl (by decide) rfl (Nat.le_of_ble_eq_true rfl) (ls := [some (.ref 0), none]) rfl (fun X C W hF hX => ?_)
  subst hX
  refine sw_aload_0 C dL_runScript_0 ?_
  refine sn_cV0r C vX5_runScript lL_141 rfl (by decide) rfl rfl dL_runScript_1 (Nat.le_of_ble_eq_true rfl) h (Nat.le_refl _) (by omega) (by omega) ?_
  exact sn_iret C rfl hF dL_runScript_4 (by omega) (by omega) rfl rfl rfl rfl
theorem eL_runScript_1 : wSel RL "java/lang/IllegalArgumentException" hhL_runScript 1 5 := ⟨(tableOf hhL_runScript).take 0, (tableOf hhL_runScript).get ⟨0, by decide⟩, (tableOf hhL_runScript).drop 1, rfl, (fun z hz => by cases hz), by decide, by decide, rfl, "java/lang/IllegalArgumentException", qL_13, qC_IllegalArgumentException⟩
set_option maxHeartbeats 1000000 in
theorem tL_runScript_1 {l : Launch} (hl : l.stackTraces = false) {G : zG} {S S1 : zS} {J : Int64} {E : UInt64} {d mc ms : Nat} (h : nCT l G mX5_runScript d mc ms [.ref 0] S J E "java/lang/IllegalArgumentException" S1 J E) : wCR l G mL_runScript hhL_runScript (d + 1) mc ms [.ref 0] S J E (some (zi 4294967295)) S1 J E := by
  refine wCR.of hl (by decide) rfl (Nat.le_of_ble_eq_true rfl) (ls := [some (.ref 0), none]) rfl (fun X C W hF hX => ?_)
  subst hX
  refine sw_aload_0 C dL_runScript_0 ?_
  refine sw_callV_C (as := []) (st := []) (i := 1) (hpc := 5) (len := 1) C W vX5_runScript kL_141 rfl (by decide) rfl rfl dL_runScript_1 rfl (Nat.le_of_ble_eq_true rfl) h (Nat.le_refl _) (by omega) (by omega) eL_runScript_1 (Nat.le_of_ble_eq_true rfl) (fun u hu => by cases hu; rfl) (Or.inr ⟨1, rfl, dL_runScript_5, rfl⟩) (ls' := [some (.ref 0), none]) rfl ?_
  refine sn_iconst C 4294967295 (by decide) dL_runScript_6 ?_
  exact sn_iret C rfl hF dL_runScript_7 (by omega) (by omega) rfl rfl rfl rfl
theorem eL_runScript_2 : wSel RL "java/lang/IllegalStateException" hhL_runScript 1 8 := ⟨(tableOf hhL_runScript).take 1, (tableOf hhL_runScript).get ⟨1, by decide⟩, (tableOf hhL_runScript).drop 2, rfl, (fun z hz => by rcases List.mem_singleton.mp hz with rfl; exact ⟨by decide, "java/lang/IllegalArgumentException", qL_13, by decide +kernel⟩), by decide, by decide, rfl, "java/lang/IllegalStateException", qL_15, qC_IllegalStateException⟩
set_option maxHeartbeats 1000000 in
theorem tL_runScript_2 {l : Launch} (hl : l.stackTraces = false) {G : zG} {S S1 : zS} {J : Int64} {E : UInt64} {d mc ms : Nat} (h : nCT l G mX5_runScript d mc ms [.ref 0] S J E "java/lang/IllegalStateException" S1 J E) : wCR l G mL_runScript hhL_runScript (d + 1) mc ms [.ref 0] S J E (some (zi 4294967294)) S1 J E := by
  refine wCR.of hl (by decide) rfl (Nat.le_of_ble_eq_true rfl) (ls := [some (.ref 0), none]) rfl (fun X C W hF hX => ?_)
  subst hX
  refine sw_aload_0 C dL_runScript_0 ?_
  refine sw_callV_C (as := []) (st := []) (i := 1) (hpc := 8) (len := 1) C W vX5_runScript kL_141 rfl (by decide) rfl rfl dL_runScript_1 rfl (Nat.le_of_ble_eq_true rfl) h (Nat.le_refl _) (by omega) (by omega) eL_runScript_2 (Nat.le_of_ble_eq_true rfl) (fun u hu => by cases hu; rfl) (Or.inr ⟨1, rfl, dL_runScript_8, rfl⟩) (ls' := [some (.ref 0), none]) rfl ?_
  refine sn_bipush C 4294967294 (by decide) dL_runScript_9 ?_
  exact sn_iret C rfl hF dL_runScript_11 (by omega) (by omega) rfl rfl rfl rfl
abbrev hhL_errorPosition : zHh := [(0, 4, 5, 25)]
theorem wL_errorPosition : Cond.codeWith mL_errorPosition.1 mL_errorPosition.2.1 mL_errorPosition.2.2.1 mL_errorPosition.2.2.2 hhL_errorPosition ∈ lw_tbl := (List.mem_of_getElem? (i := 1197) (by decide +kernel))
theorem sL_errorPosition : Cond.static mL_errorPosition.1 ∈ lw_tbl := (List.mem_of_getElem? (i := 1196) (by decide +kernel))
set_option maxHeartbeats 1000000 in
theorem rL_errorPosition {l : Launch} (hl : l.stackTraces = false) {G : zG} {S S1 : zS} {J : Int64} {E : UInt64} {d mc ms : Nat} {v : Nat} (h : nCR l G mX5_errorPosition d mc ms [.ref 0] S J E (some (zi v)) S1 J E) : wCR l G mL_errorPosition hhL_errorPosition (d + 1) mc ms [.ref 0] S J E (some (zi v)) S1 J E := by
  refine wCR.of hl (by decide) rfl (Nat.le_of_ble_eq_true rfl) (ls := [some (.ref 0), none]) rfl (fun X C W hF hX => ?_)
  subst hX
  refine sw_aload_0 C dL_errorPosition_0 ?_
  refine sn_cV0r C vX5_errorPosition lL_145 rfl (by decide) rfl rfl dL_errorPosition_1 (Nat.le_of_ble_eq_true rfl) h (Nat.le_refl _) (by omega) (by omega) ?_
  exact sn_iret C rfl hF dL_errorPosition_4 (by omega) (by omega) rfl rfl rfl rfl
theorem eL_errorPosition_1 : wSel RL "java/util/NoSuchElementException" hhL_errorPosition 1 5 := ⟨(tableOf hhL_errorPosition).take 0, (tableOf hhL_errorPosition).get ⟨0, by decide⟩, (tableOf hhL_errorPosition).drop 1, rfl, (fun z hz => by cases hz), by decide, by decide, rfl, "java/util/NoSuchElementException", qL_25, qC_NoSuchElementException⟩
set_option maxHeartbeats 1000000 in
theorem tL_errorPosition_1 {l : Launch} (hl : l.stackTraces = false) {G : zG} {S S1 : zS} {J : Int64} {E : UInt64} {d mc ms : Nat} (h : nCT l G mX5_errorPosition d mc ms [.ref 0] S J E "java/util/NoSuchElementException" S1 J E) : wCR l G mL_errorPosition hhL_errorPosition (d + 1) mc ms [.ref 0] S J E (some (zi 4294967295)) S1 J E := by
  refine wCR.of hl (by decide) rfl (Nat.le_of_ble_eq_true rfl) (ls := [some (.ref 0), none]) rfl (fun X C W hF hX => ?_)
  subst hX
  refine sw_aload_0 C dL_errorPosition_0 ?_
  refine sw_callV_C (as := []) (st := []) (i := 1) (hpc := 5) (len := 1) C W vX5_errorPosition kL_145 rfl (by decide) rfl rfl dL_errorPosition_1 rfl (Nat.le_of_ble_eq_true rfl) h (Nat.le_refl _) (by omega) (by omega) eL_errorPosition_1 (Nat.le_of_ble_eq_true rfl) (fun u hu => by cases hu; rfl) (Or.inr ⟨1, rfl, dL_errorPosition_5, rfl⟩) (ls' := [some (.ref 0), none]) rfl ?_
  refine sn_iconst C 4294967295 (by decide) dL_errorPosition_6 ?_
  exact sn_iret C rfl hF dL_errorPosition_7 (by omega) (by omega) rfl rfl rfl rfl
abbrev hhL_failedCommand : zHh := [(0, 4, 5, 25)]
theorem wL_failedCommand : Cond.codeWith mL_failedCommand.1 mL_failedCommand.2.1 mL_failedCommand.2.2.1 mL_failedCommand.2.2.2 hhL_failedCommand ∈ lw_tbl := (List.mem_of_getElem? (i := 1204) (by decide +kernel))
theorem sL_failedCommand : Cond.static mL_failedCommand.1 ∈ lw_tbl := (List.mem_of_getElem? (i := 1203) (by decide +kernel))
set_option maxHeartbeats 1000000 in
theorem rL_failedCommand {l : Launch} (hl : l.stackTraces = false) {G : zG} {S S1 : zS} {J : Int64} {E : UInt64} {d mc ms : Nat} {v : Nat} (h : nCR l G mX5_failedCommand d mc ms [.ref 0] S J E (some (zi v)) S1 J E) : wCR l G mL_failedCommand hhL_failedCommand (d + 1) mc ms [.ref 0] S J E (some (zi v)) S1 J E := by
  refine wCR.of hl (by decide) rfl (Nat.le_of_ble_eq_true rfl) (ls := [some (.ref 0), none]) rfl (fun X C W hF hX => ?_)
  subst hX
  refine sw_aload_0 C dL_failedCommand_0 ?_
  refine sn_cV0r C vX5_failedCommand lL_148 rfl (by decide) rfl rfl dL_failedCommand_1 (Nat.le_of_ble_eq_true rfl) h (Nat.le_refl _) (by omega) (by omega) ?_
  exact sn_iret C rfl hF dL_failedCommand_4 (by omega) (by omega) rfl rfl rfl rfl
theorem eL_failedCommand_1 : wSel RL "java/util/NoSuchElementException" hhL_failedCommand 1 5 := ⟨(tableOf hhL_failedCommand).take 0, (tableOf hhL_failedCommand).get ⟨0, by decide⟩, (tableOf hhL_failedCommand).drop 1, rfl, (fun z hz => by cases hz), by decide, by decide, rfl, "java/util/NoSuchElementException", qL_25, qC_NoSuchElementException⟩
set_option maxHeartbeats 1000000 in
theorem tL_failedCommand_1 {l : Launch} (hl : l.stackTraces = false) {G : zG} {S S1 : zS} {J : Int64} {E : UInt64} {d mc ms : Nat} (h : nCT l G mX5_failedCommand d mc ms [.ref 0] S J E "java/util/NoSuchElementException" S1 J E) : wCR l G mL_failedCommand hhL_failedCommand (d + 1) mc ms [.ref 0] S J E (some (zi 4294967295)) S1 J E := by
  refine wCR.of hl (by decide) rfl (Nat.le_of_ble_eq_true rfl) (ls := [some (.ref 0), none]) rfl (fun X C W hF hX => ?_)
  subst hX
  refine sw_aload_0 C dL_failedCommand_0 ?_
  refine sw_callV_C (as := []) (st := []) (i := 1) (hpc := 5) (len := 1) C W vX5_failedCommand kL_148 rfl (by decide) rfl rfl dL_failedCommand_1 rfl (Nat.le_of_ble_eq_true rfl) h (Nat.le_refl _) (by omega) (by omega) eL_failedCommand_1 (Nat.le_of_ble_eq_true rfl) (fun u hu => by cases hu; rfl) (Or.inr ⟨1, rfl, dL_failedCommand_5, rfl⟩) (ls' := [some (.ref 0), none]) rfl ?_
  refine sn_iconst C 4294967295 (by decide) dL_failedCommand_6 ?_
  exact sn_iret C rfl hF dL_failedCommand_7 (by omega) (by omega) rfl rfl rfl rfl
abbrev hhL_undo : zHh := [(0, 4, 5, 25)]
theorem wL_undo : Cond.codeWith mL_undo.1 mL_undo.2.1 mL_undo.2.2.1 mL_undo.2.2.2 hhL_undo ∈ lw_tbl := (List.mem_of_getElem? (i := 1211) (by decide +kernel))
theorem sL_undo : Cond.static mL_undo.1 ∈ lw_tbl := (List.mem_of_getElem? (i := 1210) (by decide +kernel))
set_option maxHeartbeats 1000000 in
theorem rL_undo {l : Launch} (hl : l.stackTraces = false) {G : zG} {S S1 : zS} {J : Int64} {E : UInt64} {d mc ms : Nat} {v : Nat} (h : nCR l G mX5_undo d mc ms [.ref 0] S J E (some (zi v)) S1 J E) : wCR l G mL_undo hhL_undo (d + 1) mc ms [.ref 0] S J E (some (zi v)) S1 J E := by
  refine wCR.of hl (by decide) rfl (Nat.le_of_ble_eq_true rfl) (ls := [some (.ref 0), none]) rfl (fun X C W hF hX => ?_)
  subst hX
  refine sw_aload_0 C dL_undo_0 ?_
  refine sn_cV0r C vX5_undo lL_151 rfl (by decide) rfl rfl dL_undo_1 (Nat.le_of_ble_eq_true rfl) h (Nat.le_refl _) (by omega) (by omega) ?_
  exact sn_iret C rfl hF dL_undo_4 (by omega) (by omega) rfl rfl rfl rfl
theorem eL_undo_1 : wSel RL "java/util/NoSuchElementException" hhL_undo 1 5 := ⟨(tableOf hhL_undo).take 0, (tableOf hhL_undo).get ⟨0, by decide⟩, (tableOf hhL_undo).drop 1, rfl, (fun z hz => by cases hz), by decide, by decide, rfl, "java/util/NoSuchElementException", qL_25, qC_NoSuchElementException⟩
set_option maxHeartbeats 1000000 in
theorem tL_undo_1 {l : Launch} (hl : l.stackTraces = false) {G : zG} {S S1 : zS} {J : Int64} {E : UInt64} {d mc ms : Nat} (h : nCT l G mX5_undo d mc ms [.ref 0] S J E "java/util/NoSuchElementException" S1 J E) : wCR l G mL_undo hhL_undo (d + 1) mc ms [.ref 0] S J E (some (zi 4294967295)) S1 J E := by
  refine wCR.of hl (by decide) rfl (Nat.le_of_ble_eq_true rfl) (ls := [some (.ref 0), none]) rfl (fun X C W hF hX => ?_)
  subst hX
  refine sw_aload_0 C dL_undo_0 ?_
  refine sw_callV_C (as := []) (st := []) (i := 1) (hpc := 5) (len := 1) C W vX5_undo kL_151 rfl (by decide) rfl rfl dL_undo_1 rfl (Nat.le_of_ble_eq_true rfl) h (Nat.le_refl _) (by omega) (by omega) eL_undo_1 (Nat.le_of_ble_eq_true rfl) (fun u hu => by cases hu; rfl) (Or.inr ⟨1, rfl, dL_undo_5, rfl⟩) (ls' := [some (.ref 0), none]) rfl ?_
  refine sn_iconst C 4294967295 (by decide) dL_undo_6 ?_
  exact sn_iret C rfl hF dL_undo_7 (by omega) (by omega) rfl rfl rfl rfl
abbrev hhL_restore : zHh := [(0, 4, 5, 15)]
theorem wL_restore : Cond.codeWith mL_restore.1 mL_restore.2.1 mL_restore.2.2.1 mL_restore.2.2.2 hhL_restore ∈ lw_tbl := (List.mem_of_getElem? (i := 1223) (by decide +kernel))
theorem sL_restore : Cond.static mL_restore.1 ∈ lw_tbl := (List.mem_of_getElem? (i := 1222) (by decide +kernel))
set_option maxHeartbeats 1000000 in
theorem rL_restore {l : Launch} (hl : l.stackTraces = false) {G : zG} {S S1 : zS} {J : Int64} {E : UInt64} {d mc ms : Nat} {v : Nat} (h : nCR l G mX5_restore d mc ms [.ref 0] S J E (some (zi v)) S1 J E) : wCR l G mL_restore hhL_restore (d + 1) mc ms [.ref 0] S J E (some (zi v)) S1 J E := by
  refine wCR.of hl (by decide) rfl (Nat.le_of_ble_eq_true rfl) (ls := [some (.ref 0), none]) rfl (fun X C W hF hX => ?_)
  subst hX
  refine sw_aload_0 C dL_restore_0 ?_
  refine sn_cV0r C vX5_restore lL_154 rfl (by decide) rfl rfl dL_restore_1 (Nat.le_of_ble_eq_true rfl) h (Nat.le_refl _) (by omega) (by omega) ?_
  exact sn_iret C rfl hF dL_restore_4 (by omega) (by omega) rfl rfl rfl rfl
theorem eL_restore_1 : wSel RL "java/lang/IllegalStateException" hhL_restore 1 5 := ⟨(tableOf hhL_restore).take 0, (tableOf hhL_restore).get ⟨0, by decide⟩, (tableOf hhL_restore).drop 1, rfl, (fun z hz => by cases hz), by decide, by decide, rfl, "java/lang/IllegalStateException", qL_15, qC_IllegalStateException⟩
set_option maxHeartbeats 1000000 in
theorem tL_restore_1 {l : Launch} (hl : l.stackTraces = false) {G : zG} {S S1 : zS} {J : Int64} {E : UInt64} {d mc ms : Nat} (h : nCT l G mX5_restore d mc ms [.ref 0] S J E "java/lang/IllegalStateException" S1 J E) : wCR l G mL_restore hhL_restore (d + 1) mc ms [.ref 0] S J E (some (zi 4294967295)) S1 J E := by
  refine wCR.of hl (by decide) rfl (Nat.le_of_ble_eq_true rfl) (ls := [some (.ref 0), none]) rfl (fun X C W hF hX => ?_)
  subst hX
  refine sw_aload_0 C dL_restore_0 ?_
  refine sw_callV_C (as := []) (st := []) (i := 1) (hpc := 5) (len := 1) C W vX5_restore kL_154 rfl (by decide) rfl rfl dL_restore_1 rfl (Nat.le_of_ble_eq_true rfl) h (Nat.le_refl _) (by omega) (by omega) eL_restore_1 (Nat.le_of_ble_eq_true rfl) (fun u hu => by cases hu; rfl) (Or.inr ⟨1, rfl, dL_restore_5, rfl⟩) (ls' := [some (.ref 0), none]) rfl ?_
  refine sn_iconst C 4294967295 (by decide) dL_restore_6 ?_
  exact sn_iret C rfl hF dL_restore_7 (by omega) (by omega) rfl rfl rfl rfl
abbrev hhL_unlink : zHh := [(0, 6, 7, 20), (0, 6, 10, 25)]
theorem wL_unlink : Cond.codeWith mL_unlink.1 mL_unlink.2.1 mL_unlink.2.2.1 mL_unlink.2.2.2 hhL_unlink ∈ lw_tbl := (List.mem_of_getElem? (i := 1246) (by decide +kernel))
theorem sL_unlink : Cond.static mL_unlink.1 ∈ lw_tbl := (List.mem_of_getElem? (i := 1245) (by decide +kernel))
set_option maxHeartbeats 1000000 in
theorem rL_unlink {l : Launch} (hl : l.stackTraces = false) {G : zG} {S S1 : zS} {J : Int64} {E : UInt64} {d mc ms : Nat} {x y : Nat} {v : Nat} (h : nCR l G mX5_unlink d mc ms [.ref 0, zi x, zi y] S J E (some (zi v)) S1 J E) : wCR l G mL_unlink hhL_unlink (d + 1) mc ms [.ref 0, zi x, zi y] S J E (some (zi v)) S1 J E := by
  refine wCR.of hl (by decide) rfl (Nat.le_of_ble_eq_true rfl) (ls := [some (.ref 0), some (zi x), some (zi y), none]) rfl (fun X C W hF hX => ?_)
  subst hX
  refine sw_aload_0 C dL_unlink_0 ?_
  refine sw_iload_1 C dL_unlink_1 ?_
  refine sw_iload_2 C dL_unlink_2 ?_
  refine sn_cV2r C vX5_unlink lL_22 rfl (by decide) rfl rfl dL_unlink_3 (Nat.le_of_ble_eq_true rfl) h (Nat.le_refl _) (by omega) (by omega) ?_
  exact sn_iret C rfl hF dL_unlink_6 (by omega) (by omega) rfl rfl rfl rfl
theorem eL_unlink_1 : wSel RL "java/lang/IndexOutOfBoundsException" hhL_unlink 3 7 := ⟨(tableOf hhL_unlink).take 0, (tableOf hhL_unlink).get ⟨0, by decide⟩, (tableOf hhL_unlink).drop 1, rfl, (fun z hz => by cases hz), by decide, by decide, rfl, "java/lang/IndexOutOfBoundsException", qL_20, qC_IndexOutOfBoundsException⟩
set_option maxHeartbeats 1000000 in
theorem tL_unlink_1 {l : Launch} (hl : l.stackTraces = false) {G : zG} {S S1 : zS} {J : Int64} {E : UInt64} {d mc ms : Nat} {x y : Nat} (h : nCT l G mX5_unlink d mc ms [.ref 0, zi x, zi y] S J E "java/lang/IndexOutOfBoundsException" S1 J E) : wCR l G mL_unlink hhL_unlink (d + 1) mc ms [.ref 0, zi x, zi y] S J E (some (zi 4294967295)) S1 J E := by
  refine wCR.of hl (by decide) rfl (Nat.le_of_ble_eq_true rfl) (ls := [some (.ref 0), some (zi x), some (zi y), none]) rfl (fun X C W hF hX => ?_)
  subst hX
  refine sw_aload_0 C dL_unlink_0 ?_
  refine sw_iload_1 C dL_unlink_1 ?_
  refine sw_iload_2 C dL_unlink_2 ?_
  refine sw_callV_C (as := [zi x, zi y]) (st := []) (i := 3) (hpc := 7) (len := 1) C W vX5_unlink kL_22 rfl (by decide) rfl rfl dL_unlink_3 rfl (Nat.le_of_ble_eq_true rfl) h (Nat.le_refl _) (by omega) (by omega) eL_unlink_1 (Nat.le_of_ble_eq_true rfl) (fun u hu => by cases hu; rfl) (Or.inr ⟨3, rfl, dL_unlink_7, rfl⟩) (ls' := [some (.ref 0), some (zi x), some (zi y), none]) rfl ?_
  refine sn_iconst C 4294967295 (by decide) dL_unlink_8 ?_
  exact sn_iret C rfl hF dL_unlink_9 (by omega) (by omega) rfl rfl rfl rfl
theorem eL_unlink_2 : wSel RL "java/util/NoSuchElementException" hhL_unlink 3 10 := ⟨(tableOf hhL_unlink).take 1, (tableOf hhL_unlink).get ⟨1, by decide⟩, (tableOf hhL_unlink).drop 2, rfl, (fun z hz => by rcases List.mem_singleton.mp hz with rfl; exact ⟨by decide, "java/lang/IndexOutOfBoundsException", qL_20, by decide +kernel⟩), by decide, by decide, rfl, "java/util/NoSuchElementException", qL_25, qC_NoSuchElementException⟩
set_option maxHeartbeats 1000000 in
theorem tL_unlink_2 {l : Launch} (hl : l.stackTraces = false) {G : zG} {S S1 : zS} {J : Int64} {E : UInt64} {d mc ms : Nat} {x y : Nat} (h : nCT l G mX5_unlink d mc ms [.ref 0, zi x, zi y] S J E "java/util/NoSuchElementException" S1 J E) : wCR l G mL_unlink hhL_unlink (d + 1) mc ms [.ref 0, zi x, zi y] S J E (some (zi 4294967294)) S1 J E := by
  refine wCR.of hl (by decide) rfl (Nat.le_of_ble_eq_true rfl) (ls := [some (.ref 0), some (zi x), some (zi y), none]) rfl (fun X C W hF hX => ?_)
  subst hX
  refine sw_aload_0 C dL_unlink_0 ?_
  refine sw_iload_1 C dL_unlink_1 ?_
  refine sw_iload_2 C dL_unlink_2 ?_
  refine sw_callV_C (as := [zi x, zi y]) (st := []) (i := 3) (hpc := 10) (len := 1) C W vX5_unlink kL_22 rfl (by decide) rfl rfl dL_unlink_3 rfl (Nat.le_of_ble_eq_true rfl) h (Nat.le_refl _) (by omega) (by omega) eL_unlink_2 (Nat.le_of_ble_eq_true rfl) (fun u hu => by cases hu; rfl) (Or.inr ⟨3, rfl, dL_unlink_10, rfl⟩) (ls' := [some (.ref 0), some (zi x), some (zi y), none]) rfl ?_
  refine sn_bipush C 4294967294 (by decide) dL_unlink_11 ?_
  exact sn_iret C rfl hF dL_unlink_13 (by omega) (by omega) rfl rfl rfl rfl
abbrev hhL_moveListener : zHh := [(0, 6, 7, 20), (0, 6, 10, 13), (0, 6, 14, 15)]
theorem wL_moveListener : Cond.codeWith mL_moveListener.1 mL_moveListener.2.1 mL_moveListener.2.2.1 mL_moveListener.2.2.2 hhL_moveListener ∈ lw_tbl := (List.mem_of_getElem? (i := 1253) (by decide +kernel))
theorem sL_moveListener : Cond.static mL_moveListener.1 ∈ lw_tbl := (List.mem_of_getElem? (i := 1252) (by decide +kernel))
set_option maxHeartbeats 1000000 in
theorem rL_moveListener {l : Launch} (hl : l.stackTraces = false) {G : zG} {S S1 : zS} {J : Int64} {E : UInt64} {d mc ms : Nat} {x y : Nat} {v : Nat} (h : nCR l G mX5_moveListener d mc ms [.ref 0, zi x, zi y] S J E (some (zi v)) S1 J E) : wCR l G mL_moveListener hhL_moveListener (d + 1) mc ms [.ref 0, zi x, zi y] S J E (some (zi v)) S1 J E := by
  refine wCR.of hl (by decide) rfl (Nat.le_of_ble_eq_true rfl) (ls := [some (.ref 0), some (zi x), some (zi y), none]) rfl (fun X C W hF hX => ?_)
  subst hX
  refine sw_aload_0 C dL_moveListener_0 ?_
  refine sw_iload_1 C dL_moveListener_1 ?_
  refine sw_iload_2 C dL_moveListener_2 ?_
  refine sn_cV2r C vX5_moveListener lL_27 rfl (by decide) rfl rfl dL_moveListener_3 (Nat.le_of_ble_eq_true rfl) h (Nat.le_refl _) (by omega) (by omega) ?_
  exact sn_iret C rfl hF dL_moveListener_6 (by omega) (by omega) rfl rfl rfl rfl
theorem eL_moveListener_1 : wSel RL "java/lang/IndexOutOfBoundsException" hhL_moveListener 3 7 := ⟨(tableOf hhL_moveListener).take 0, (tableOf hhL_moveListener).get ⟨0, by decide⟩, (tableOf hhL_moveListener).drop 1, rfl, (fun z hz => by cases hz), by decide, by decide, rfl, "java/lang/IndexOutOfBoundsException", qL_20, qC_IndexOutOfBoundsException⟩
set_option maxHeartbeats 1000000 in
theorem tL_moveListener_1 {l : Launch} (hl : l.stackTraces = false) {G : zG} {S S1 : zS} {J : Int64} {E : UInt64} {d mc ms : Nat} {x y : Nat} (h : nCT l G mX5_moveListener d mc ms [.ref 0, zi x, zi y] S J E "java/lang/IndexOutOfBoundsException" S1 J E) : wCR l G mL_moveListener hhL_moveListener (d + 1) mc ms [.ref 0, zi x, zi y] S J E (some (zi 4294967295)) S1 J E := by
  refine wCR.of hl (by decide) rfl (Nat.le_of_ble_eq_true rfl) (ls := [some (.ref 0), some (zi x), some (zi y), none]) rfl (fun X C W hF hX => ?_)
  subst hX
  refine sw_aload_0 C dL_moveListener_0 ?_
  refine sw_iload_1 C dL_moveListener_1 ?_
  refine sw_iload_2 C dL_moveListener_2 ?_
  refine sw_callV_C (as := [zi x, zi y]) (st := []) (i := 3) (hpc := 7) (len := 1) C W vX5_moveListener kL_27 rfl (by decide) rfl rfl dL_moveListener_3 rfl (Nat.le_of_ble_eq_true rfl) h (Nat.le_refl _) (by omega) (by omega) eL_moveListener_1 (Nat.le_of_ble_eq_true rfl) (fun u hu => by cases hu; rfl) (Or.inr ⟨3, rfl, dL_moveListener_7, rfl⟩) (ls' := [some (.ref 0), some (zi x), some (zi y), none]) rfl ?_
  refine sn_iconst C 4294967295 (by decide) dL_moveListener_8 ?_
  exact sn_iret C rfl hF dL_moveListener_9 (by omega) (by omega) rfl rfl rfl rfl
theorem eL_moveListener_2 : wSel RL "java/lang/IllegalArgumentException" hhL_moveListener 3 10 := ⟨(tableOf hhL_moveListener).take 1, (tableOf hhL_moveListener).get ⟨1, by decide⟩, (tableOf hhL_moveListener).drop 2, rfl, (fun z hz => by rcases List.mem_singleton.mp hz with rfl; exact ⟨by decide, "java/lang/IndexOutOfBoundsException", qL_20, by decide +kernel⟩), by decide, by decide, rfl, "java/lang/IllegalArgumentException", qL_13, qC_IllegalArgumentException⟩
set_option maxHeartbeats 1000000 in
theorem tL_moveListener_2 {l : Launch} (hl : l.stackTraces = false) {G : zG} {S S1 : zS} {J : Int64} {E : UInt64} {d mc ms : Nat} {x y : Nat} (h : nCT l G mX5_moveListener d mc ms [.ref 0, zi x, zi y] S J E "java/lang/IllegalArgumentException" S1 J E) : wCR l G mL_moveListener hhL_moveListener (d + 1) mc ms [.ref 0, zi x, zi y] S J E (some (zi 4294967294)) S1 J E := by
  refine wCR.of hl (by decide) rfl (Nat.le_of_ble_eq_true rfl) (ls := [some (.ref 0), some (zi x), some (zi y), none]) rfl (fun X C W hF hX => ?_)
  subst hX
  refine sw_aload_0 C dL_moveListener_0 ?_
  refine sw_iload_1 C dL_moveListener_1 ?_
  refine sw_iload_2 C dL_moveListener_2 ?_
  refine sw_callV_C (as := [zi x, zi y]) (st := []) (i := 3) (hpc := 10) (len := 1) C W vX5_moveListener kL_27 rfl (by decide) rfl rfl dL_moveListener_3 rfl (Nat.le_of_ble_eq_true rfl) h (Nat.le_refl _) (by omega) (by omega) eL_moveListener_2 (Nat.le_of_ble_eq_true rfl) (fun u hu => by cases hu; rfl) (Or.inr ⟨3, rfl, dL_moveListener_10, rfl⟩) (ls' := [some (.ref 0), some (zi x), some (zi y), none]) rfl ?_
  refine sn_bipush C 4294967294 (by decide) dL_moveListener_11 ?_
  exact sn_iret C rfl hF dL_moveListener_13 (by omega) (by omega) rfl rfl rfl rfl
theorem eL_moveListener_3 : wSel RL "java/lang/IllegalStateException" hhL_moveListener 3 14 := ⟨(tableOf hhL_moveListener).take 2, (tableOf hhL_moveListener).get ⟨2, by decide⟩, (tableOf hhL_moveListener).drop 3, rfl, (fun z hz => by
    rcases List.mem_cons.mp hz with rfl | hz
    · exact ⟨by decide, "java/lang/IndexOutOfBoundsException", qL_20, by decide +kernel⟩
    · rcases List.mem_singleton.mp hz with rfl; exact ⟨by decide, "java/lang/IllegalArgumentException", qL_13, by decide +kernel⟩), by decide, by decide, rfl, "java/lang/IllegalStateException", qL_15, qC_IllegalStateException⟩
set_option maxHeartbeats 1000000 in
theorem tL_moveListener_3 {l : Launch} (hl : l.stackTraces = false) {G : zG} {S S1 : zS} {J : Int64} {E : UInt64} {d mc ms : Nat} {x y : Nat} (h : nCT l G mX5_moveListener d mc ms [.ref 0, zi x, zi y] S J E "java/lang/IllegalStateException" S1 J E) : wCR l G mL_moveListener hhL_moveListener (d + 1) mc ms [.ref 0, zi x, zi y] S J E (some (zi 4294967293)) S1 J E := by
  refine wCR.of hl (by decide) rfl (Nat.le_of_ble_eq_true rfl) (ls := [some (.ref 0), some (zi x), some (zi y), none]) rfl (fun X C W hF hX => ?_)
  subst hX
  refine sw_aload_0 C dL_moveListener_0 ?_
  refine sw_iload_1 C dL_moveListener_1 ?_
  refine sw_iload_2 C dL_moveListener_2 ?_
  refine sw_callV_C (as := [zi x, zi y]) (st := []) (i := 3) (hpc := 14) (len := 1) C W vX5_moveListener kL_27 rfl (by decide) rfl rfl dL_moveListener_3 rfl (Nat.le_of_ble_eq_true rfl) h (Nat.le_refl _) (by omega) (by omega) eL_moveListener_3 (Nat.le_of_ble_eq_true rfl) (fun u hu => by cases hu; rfl) (Or.inr ⟨3, rfl, dL_moveListener_14, rfl⟩) (ls' := [some (.ref 0), some (zi x), some (zi y), none]) rfl ?_
  refine sn_bipush C 4294967293 (by decide) dL_moveListener_15 ?_
  exact sn_iret C rfl hF dL_moveListener_17 (by omega) (by omega) rfl rfl rfl rfl
abbrev hhL_answer : zHh := [(0, 6, 7, 20), (0, 6, 10, 13), (0, 6, 14, 15)]
theorem wL_answer : Cond.codeWith mL_answer.1 mL_answer.2.1 mL_answer.2.2.1 mL_answer.2.2.2 hhL_answer ∈ lw_tbl := (List.mem_of_getElem? (i := 1260) (by decide +kernel))
theorem sL_answer : Cond.static mL_answer.1 ∈ lw_tbl := (List.mem_of_getElem? (i := 1259) (by decide +kernel))
set_option maxHeartbeats 1000000 in
theorem rL_answer {l : Launch} (hl : l.stackTraces = false) {G : zG} {S S1 : zS} {J : Int64} {E : UInt64} {d mc ms : Nat} {x y : Nat} {v : Nat} (h : nCR l G mX5_answer d mc ms [.ref 0, zi x, zi y] S J E (some (zi v)) S1 J E) : wCR l G mL_answer hhL_answer (d + 1) mc ms [.ref 0, zi x, zi y] S J E (some (zi v)) S1 J E := by
  refine wCR.of hl (by decide) rfl (Nat.le_of_ble_eq_true rfl) (ls := [some (.ref 0), some (zi x), some (zi y), none]) rfl (fun X C W hF hX => ?_)
  subst hX
  refine sw_aload_0 C dL_answer_0 ?_
  refine sw_iload_1 C dL_answer_1 ?_
  refine sw_iload_2 C dL_answer_2 ?_
  refine sn_cV2r C vX5_answer lL_41 rfl (by decide) rfl rfl dL_answer_3 (Nat.le_of_ble_eq_true rfl) h (Nat.le_refl _) (by omega) (by omega) ?_
  exact sn_iret C rfl hF dL_answer_6 (by omega) (by omega) rfl rfl rfl rfl
theorem eL_answer_1 : wSel RL "java/lang/IndexOutOfBoundsException" hhL_answer 3 7 := ⟨(tableOf hhL_answer).take 0, (tableOf hhL_answer).get ⟨0, by decide⟩, (tableOf hhL_answer).drop 1, rfl, (fun z hz => by cases hz), by decide, by decide, rfl, "java/lang/IndexOutOfBoundsException", qL_20, qC_IndexOutOfBoundsException⟩
set_option maxHeartbeats 1000000 in
theorem tL_answer_1 {l : Launch} (hl : l.stackTraces = false) {G : zG} {S S1 : zS} {J : Int64} {E : UInt64} {d mc ms : Nat} {x y : Nat} (h : nCT l G mX5_answer d mc ms [.ref 0, zi x, zi y] S J E "java/lang/IndexOutOfBoundsException" S1 J E) : wCR l G mL_answer hhL_answer (d + 1) mc ms [.ref 0, zi x, zi y] S J E (some (zi 4294967295)) S1 J E := by
  refine wCR.of hl (by decide) rfl (Nat.le_of_ble_eq_true rfl) (ls := [some (.ref 0), some (zi x), some (zi y), none]) rfl (fun X C W hF hX => ?_)
  subst hX
  refine sw_aload_0 C dL_answer_0 ?_
  refine sw_iload_1 C dL_answer_1 ?_
  refine sw_iload_2 C dL_answer_2 ?_
  refine sw_callV_C (as := [zi x, zi y]) (st := []) (i := 3) (hpc := 7) (len := 1) C W vX5_answer kL_41 rfl (by decide) rfl rfl dL_answer_3 rfl (Nat.le_of_ble_eq_true rfl) h (Nat.le_refl _) (by omega) (by omega) eL_answer_1 (Nat.le_of_ble_eq_true rfl) (fun u hu => by cases hu; rfl) (Or.inr ⟨3, rfl, dL_answer_7, rfl⟩) (ls' := [some (.ref 0), some (zi x), some (zi y), none]) rfl ?_
  refine sn_iconst C 4294967295 (by decide) dL_answer_8 ?_
  exact sn_iret C rfl hF dL_answer_9 (by omega) (by omega) rfl rfl rfl rfl
theorem eL_answer_2 : wSel RL "java/lang/IllegalArgumentException" hhL_answer 3 10 := ⟨(tableOf hhL_answer).take 1, (tableOf hhL_answer).get ⟨1, by decide⟩, (tableOf hhL_answer).drop 2, rfl, (fun z hz => by rcases List.mem_singleton.mp hz with rfl; exact ⟨by decide, "java/lang/IndexOutOfBoundsException", qL_20, by decide +kernel⟩), by decide, by decide, rfl, "java/lang/IllegalArgumentException", qL_13, qC_IllegalArgumentException⟩
set_option maxHeartbeats 1000000 in
theorem tL_answer_2 {l : Launch} (hl : l.stackTraces = false) {G : zG} {S S1 : zS} {J : Int64} {E : UInt64} {d mc ms : Nat} {x y : Nat} (h : nCT l G mX5_answer d mc ms [.ref 0, zi x, zi y] S J E "java/lang/IllegalArgumentException" S1 J E) : wCR l G mL_answer hhL_answer (d + 1) mc ms [.ref 0, zi x, zi y] S J E (some (zi 4294967294)) S1 J E := by
  refine wCR.of hl (by decide) rfl (Nat.le_of_ble_eq_true rfl) (ls := [some (.ref 0), some (zi x), some (zi y), none]) rfl (fun X C W hF hX => ?_)
  subst hX
  refine sw_aload_0 C dL_answer_0 ?_
  refine sw_iload_1 C dL_answer_1 ?_
  refine sw_iload_2 C dL_answer_2 ?_
  refine sw_callV_C (as := [zi x, zi y]) (st := []) (i := 3) (hpc := 10) (len := 1) C W vX5_answer kL_41 rfl (by decide) rfl rfl dL_answer_3 rfl (Nat.le_of_ble_eq_true rfl) h (Nat.le_refl _) (by omega) (by omega) eL_answer_2 (Nat.le_of_ble_eq_true rfl) (fun u hu => by cases hu; rfl) (Or.inr ⟨3, rfl, dL_answer_10, rfl⟩) (ls' := [some (.ref 0), some (zi x), some (zi y), none]) rfl ?_
  refine sn_bipush C 4294967294 (by decide) dL_answer_11 ?_
  exact sn_iret C rfl hF dL_answer_13 (by omega) (by omega) rfl rfl rfl rfl
theorem eL_answer_3 : wSel RL "java/lang/IllegalStateException" hhL_answer 3 14 := ⟨(tableOf hhL_answer).take 2, (tableOf hhL_answer).get ⟨2, by decide⟩, (tableOf hhL_answer).drop 3, rfl, (fun z hz => by
    rcases List.mem_cons.mp hz with rfl | hz
    · exact ⟨by decide, "java/lang/IndexOutOfBoundsException", qL_20, by decide +kernel⟩
    · rcases List.mem_singleton.mp hz with rfl; exact ⟨by decide, "java/lang/IllegalArgumentException", qL_13, by decide +kernel⟩), by decide, by decide, rfl, "java/lang/IllegalStateException", qL_15, qC_IllegalStateException⟩
set_option maxHeartbeats 1000000 in
theorem tL_answer_3 {l : Launch} (hl : l.stackTraces = false) {G : zG} {S S1 : zS} {J : Int64} {E : UInt64} {d mc ms : Nat} {x y : Nat} (h : nCT l G mX5_answer d mc ms [.ref 0, zi x, zi y] S J E "java/lang/IllegalStateException" S1 J E) : wCR l G mL_answer hhL_answer (d + 1) mc ms [.ref 0, zi x, zi y] S J E (some (zi 4294967293)) S1 J E := by
  refine wCR.of hl (by decide) rfl (Nat.le_of_ble_eq_true rfl) (ls := [some (.ref 0), some (zi x), some (zi y), none]) rfl (fun X C W hF hX => ?_)
  subst hX
  refine sw_aload_0 C dL_answer_0 ?_
  refine sw_iload_1 C dL_answer_1 ?_
  refine sw_iload_2 C dL_answer_2 ?_
  refine sw_callV_C (as := [zi x, zi y]) (st := []) (i := 3) (hpc := 14) (len := 1) C W vX5_answer kL_41 rfl (by decide) rfl rfl dL_answer_3 rfl (Nat.le_of_ble_eq_true rfl) h (Nat.le_refl _) (by omega) (by omega) eL_answer_3 (Nat.le_of_ble_eq_true rfl) (fun u hu => by cases hu; rfl) (Or.inr ⟨3, rfl, dL_answer_14, rfl⟩) (ls' := [some (.ref 0), some (zi x), some (zi y), none]) rfl ?_
  refine sn_bipush C 4294967293 (by decide) dL_answer_15 ?_
  exact sn_iret C rfl hF dL_answer_17 (by omega) (by omega) rfl rfl rfl rfl
abbrev hhL_starter : zHh := [(0, 5, 6, 20)]
theorem wL_starter : Cond.codeWith mL_starter.1 mL_starter.2.1 mL_starter.2.2.1 mL_starter.2.2.2 hhL_starter ∈ lw_tbl := (List.mem_of_getElem? (i := 1278) (by decide +kernel))
theorem sL_starter : Cond.static mL_starter.1 ∈ lw_tbl := (List.mem_of_getElem? (i := 1277) (by decide +kernel))
set_option maxHeartbeats 1000000 in
theorem rL_starter {l : Launch} (hl : l.stackTraces = false) {G : zG} {S S1 : zS} {J : Int64} {E : UInt64} {d mc ms : Nat} {x : Nat} {v : Nat} (h : nCR l G mX5_starter d mc ms [.ref 0, zi x] S J E (some (zi v)) S1 J E) : wCR l G mL_starter hhL_starter (d + 1) mc ms [.ref 0, zi x] S J E (some (zi v)) S1 J E := by
  refine wCR.of hl (by decide) rfl (Nat.le_of_ble_eq_true rfl) (ls := [some (.ref 0), some (zi x), none]) rfl (fun X C W hF hX => ?_)
  subst hX
  refine sw_aload_0 C dL_starter_0 ?_
  refine sw_iload_1 C dL_starter_1 ?_
  refine sn_cV1r C vX5_starter lL_69 rfl (by decide) rfl rfl dL_starter_2 (Nat.le_of_ble_eq_true rfl) h (Nat.le_refl _) (by omega) (by omega) ?_
  exact sn_iret C rfl hF dL_starter_5 (by omega) (by omega) rfl rfl rfl rfl
theorem eL_starter_1 : wSel RL "java/lang/IndexOutOfBoundsException" hhL_starter 2 6 := ⟨(tableOf hhL_starter).take 0, (tableOf hhL_starter).get ⟨0, by decide⟩, (tableOf hhL_starter).drop 1, rfl, (fun z hz => by cases hz), by decide, by decide, rfl, "java/lang/IndexOutOfBoundsException", qL_20, qC_IndexOutOfBoundsException⟩
set_option maxHeartbeats 1000000 in
theorem tL_starter_1 {l : Launch} (hl : l.stackTraces = false) {G : zG} {S S1 : zS} {J : Int64} {E : UInt64} {d mc ms : Nat} {x : Nat} (h : nCT l G mX5_starter d mc ms [.ref 0, zi x] S J E "java/lang/IndexOutOfBoundsException" S1 J E) : wCR l G mL_starter hhL_starter (d + 1) mc ms [.ref 0, zi x] S J E (some (zi 4294967295)) S1 J E := by
  refine wCR.of hl (by decide) rfl (Nat.le_of_ble_eq_true rfl) (ls := [some (.ref 0), some (zi x), none]) rfl (fun X C W hF hX => ?_)
  subst hX
  refine sw_aload_0 C dL_starter_0 ?_
  refine sw_iload_1 C dL_starter_1 ?_
  refine sw_callV_C (as := [zi x]) (st := []) (i := 2) (hpc := 6) (len := 1) C W vX5_starter kL_69 rfl (by decide) rfl rfl dL_starter_2 rfl (Nat.le_of_ble_eq_true rfl) h (Nat.le_refl _) (by omega) (by omega) eL_starter_1 (Nat.le_of_ble_eq_true rfl) (fun u hu => by cases hu; rfl) (Or.inr ⟨2, rfl, dL_starter_6, rfl⟩) (ls' := [some (.ref 0), some (zi x), none]) rfl ?_
  refine sn_iconst C 4294967295 (by decide) dL_starter_7 ?_
  exact sn_iret C rfl hF dL_starter_8 (by omega) (by omega) rfl rfl rfl rfl
abbrev hhL_heardRound : zHh := [(0, 6, 7, 20), (0, 6, 10, 25)]
theorem wL_heardRound : Cond.codeWith mL_heardRound.1 mL_heardRound.2.1 mL_heardRound.2.2.1 mL_heardRound.2.2.2 hhL_heardRound ∈ lw_tbl := (List.mem_of_getElem? (i := 1286) (by decide +kernel))
theorem sL_heardRound : Cond.static mL_heardRound.1 ∈ lw_tbl := (List.mem_of_getElem? (i := 1285) (by decide +kernel))
set_option maxHeartbeats 1000000 in
theorem rL_heardRound {l : Launch} (hl : l.stackTraces = false) {G : zG} {S S1 : zS} {J : Int64} {E : UInt64} {d mc ms : Nat} {x y : Nat} {v : Nat} (h : nCR l G mX5_heardRound d mc ms [.ref 0, zi x, zi y] S J E (some (zi v)) S1 J E) : wCR l G mL_heardRound hhL_heardRound (d + 1) mc ms [.ref 0, zi x, zi y] S J E (some (zi v)) S1 J E := by
  refine wCR.of hl (by decide) rfl (Nat.le_of_ble_eq_true rfl) (ls := [some (.ref 0), some (zi x), some (zi y), none]) rfl (fun X C W hF hX => ?_)
  subst hX
  refine sw_aload_0 C dL_heardRound_0 ?_
  refine sw_iload_1 C dL_heardRound_1 ?_
  refine sw_iload_2 C dL_heardRound_2 ?_
  refine sn_cV2r C vX5_heardRound lL_78 rfl (by decide) rfl rfl dL_heardRound_3 (Nat.le_of_ble_eq_true rfl) h (Nat.le_refl _) (by omega) (by omega) ?_
  exact sn_iret C rfl hF dL_heardRound_6 (by omega) (by omega) rfl rfl rfl rfl
theorem eL_heardRound_1 : wSel RL "java/lang/IndexOutOfBoundsException" hhL_heardRound 3 7 := ⟨(tableOf hhL_heardRound).take 0, (tableOf hhL_heardRound).get ⟨0, by decide⟩, (tableOf hhL_heardRound).drop 1, rfl, (fun z hz => by cases hz), by decide, by decide, rfl, "java/lang/IndexOutOfBoundsException", qL_20, qC_IndexOutOfBoundsException⟩
set_option maxHeartbeats 1000000 in
theorem tL_heardRound_1 {l : Launch} (hl : l.stackTraces = false) {G : zG} {S S1 : zS} {J : Int64} {E : UInt64} {d mc ms : Nat} {x y : Nat} (h : nCT l G mX5_heardRound d mc ms [.ref 0, zi x, zi y] S J E "java/lang/IndexOutOfBoundsException" S1 J E) : wCR l G mL_heardRound hhL_heardRound (d + 1) mc ms [.ref 0, zi x, zi y] S J E (some (zi 4294967295)) S1 J E := by
  refine wCR.of hl (by decide) rfl (Nat.le_of_ble_eq_true rfl) (ls := [some (.ref 0), some (zi x), some (zi y), none]) rfl (fun X C W hF hX => ?_)
  subst hX
  refine sw_aload_0 C dL_heardRound_0 ?_
  refine sw_iload_1 C dL_heardRound_1 ?_
  refine sw_iload_2 C dL_heardRound_2 ?_
  refine sw_callV_C (as := [zi x, zi y]) (st := []) (i := 3) (hpc := 7) (len := 1) C W vX5_heardRound kL_78 rfl (by decide) rfl rfl dL_heardRound_3 rfl (Nat.le_of_ble_eq_true rfl) h (Nat.le_refl _) (by omega) (by omega) eL_heardRound_1 (Nat.le_of_ble_eq_true rfl) (fun u hu => by cases hu; rfl) (Or.inr ⟨3, rfl, dL_heardRound_7, rfl⟩) (ls' := [some (.ref 0), some (zi x), some (zi y), none]) rfl ?_
  refine sn_iconst C 4294967295 (by decide) dL_heardRound_8 ?_
  exact sn_iret C rfl hF dL_heardRound_9 (by omega) (by omega) rfl rfl rfl rfl
theorem eL_heardRound_2 : wSel RL "java/util/NoSuchElementException" hhL_heardRound 3 10 := ⟨(tableOf hhL_heardRound).take 1, (tableOf hhL_heardRound).get ⟨1, by decide⟩, (tableOf hhL_heardRound).drop 2, rfl, (fun z hz => by rcases List.mem_singleton.mp hz with rfl; exact ⟨by decide, "java/lang/IndexOutOfBoundsException", qL_20, by decide +kernel⟩), by decide, by decide, rfl, "java/util/NoSuchElementException", qL_25, qC_NoSuchElementException⟩
set_option maxHeartbeats 1000000 in
theorem tL_heardRound_2 {l : Launch} (hl : l.stackTraces = false) {G : zG} {S S1 : zS} {J : Int64} {E : UInt64} {d mc ms : Nat} {x y : Nat} (h : nCT l G mX5_heardRound d mc ms [.ref 0, zi x, zi y] S J E "java/util/NoSuchElementException" S1 J E) : wCR l G mL_heardRound hhL_heardRound (d + 1) mc ms [.ref 0, zi x, zi y] S J E (some (zi 4294967294)) S1 J E := by
  refine wCR.of hl (by decide) rfl (Nat.le_of_ble_eq_true rfl) (ls := [some (.ref 0), some (zi x), some (zi y), none]) rfl (fun X C W hF hX => ?_)
  subst hX
  refine sw_aload_0 C dL_heardRound_0 ?_
  refine sw_iload_1 C dL_heardRound_1 ?_
  refine sw_iload_2 C dL_heardRound_2 ?_
  refine sw_callV_C (as := [zi x, zi y]) (st := []) (i := 3) (hpc := 10) (len := 1) C W vX5_heardRound kL_78 rfl (by decide) rfl rfl dL_heardRound_3 rfl (Nat.le_of_ble_eq_true rfl) h (Nat.le_refl _) (by omega) (by omega) eL_heardRound_2 (Nat.le_of_ble_eq_true rfl) (fun u hu => by cases hu; rfl) (Or.inr ⟨3, rfl, dL_heardRound_10, rfl⟩) (ls' := [some (.ref 0), some (zi x), some (zi y), none]) rfl ?_
  refine sn_bipush C 4294967294 (by decide) dL_heardRound_11 ?_
  exact sn_iret C rfl hF dL_heardRound_13 (by omega) (by omega) rfl rfl rfl rfl
abbrev hhL_doubt : zHh := [(0, 5, 6, 20)]
theorem wL_doubt : Cond.codeWith mL_doubt.1 mL_doubt.2.1 mL_doubt.2.2.1 mL_doubt.2.2.2 hhL_doubt ∈ lw_tbl := (List.mem_of_getElem? (i := 1301) (by decide +kernel))
theorem sL_doubt : Cond.static mL_doubt.1 ∈ lw_tbl := (List.mem_of_getElem? (i := 1300) (by decide +kernel))
set_option maxHeartbeats 1000000 in
theorem rL_doubt {l : Launch} (hl : l.stackTraces = false) {G : zG} {S S1 : zS} {J : Int64} {E : UInt64} {d mc ms : Nat} {x : Nat} {v : Nat} (h : nCR l G mX5_doubt d mc ms [.ref 0, zi x] S J E (some (zi v)) S1 J E) : wCR l G mL_doubt hhL_doubt (d + 1) mc ms [.ref 0, zi x] S J E (some (zi v)) S1 J E := by
  refine wCR.of hl (by decide) rfl (Nat.le_of_ble_eq_true rfl) (ls := [some (.ref 0), some (zi x), none]) rfl (fun X C W hF hX => ?_)
  subst hX
  refine sw_aload_0 C dL_doubt_0 ?_
  refine sw_iload_1 C dL_doubt_1 ?_
  refine sn_cV1r C vX5_doubt lL_50 rfl (by decide) rfl rfl dL_doubt_2 (Nat.le_of_ble_eq_true rfl) h (Nat.le_refl _) (by omega) (by omega) ?_
  exact sn_iret C rfl hF dL_doubt_5 (by omega) (by omega) rfl rfl rfl rfl
theorem eL_doubt_1 : wSel RL "java/lang/IndexOutOfBoundsException" hhL_doubt 2 6 := ⟨(tableOf hhL_doubt).take 0, (tableOf hhL_doubt).get ⟨0, by decide⟩, (tableOf hhL_doubt).drop 1, rfl, (fun z hz => by cases hz), by decide, by decide, rfl, "java/lang/IndexOutOfBoundsException", qL_20, qC_IndexOutOfBoundsException⟩
set_option maxHeartbeats 1000000 in
theorem tL_doubt_1 {l : Launch} (hl : l.stackTraces = false) {G : zG} {S S1 : zS} {J : Int64} {E : UInt64} {d mc ms : Nat} {x : Nat} (h : nCT l G mX5_doubt d mc ms [.ref 0, zi x] S J E "java/lang/IndexOutOfBoundsException" S1 J E) : wCR l G mL_doubt hhL_doubt (d + 1) mc ms [.ref 0, zi x] S J E (some (zi 4294967295)) S1 J E := by
  refine wCR.of hl (by decide) rfl (Nat.le_of_ble_eq_true rfl) (ls := [some (.ref 0), some (zi x), none]) rfl (fun X C W hF hX => ?_)
  subst hX
  refine sw_aload_0 C dL_doubt_0 ?_
  refine sw_iload_1 C dL_doubt_1 ?_
  refine sw_callV_C (as := [zi x]) (st := []) (i := 2) (hpc := 6) (len := 1) C W vX5_doubt kL_50 rfl (by decide) rfl rfl dL_doubt_2 rfl (Nat.le_of_ble_eq_true rfl) h (Nat.le_refl _) (by omega) (by omega) eL_doubt_1 (Nat.le_of_ble_eq_true rfl) (fun u hu => by cases hu; rfl) (Or.inr ⟨2, rfl, dL_doubt_6, rfl⟩) (ls' := [some (.ref 0), some (zi x), none]) rfl ?_
  refine sn_iconst C 4294967295 (by decide) dL_doubt_7 ?_
  exact sn_iret C rfl hF dL_doubt_8 (by omega) (by omega) rfl rfl rfl rfl
abbrev hhL_isLinked : zHh := [(0, 14, 15, 20)]
theorem wL_isLinked : Cond.codeWith mL_isLinked.1 mL_isLinked.2.1 mL_isLinked.2.2.1 mL_isLinked.2.2.2 hhL_isLinked ∈ lw_tbl := (List.mem_of_getElem? (i := 1308) (by decide +kernel))
theorem sL_isLinked : Cond.static mL_isLinked.1 ∈ lw_tbl := (List.mem_of_getElem? (i := 1307) (by decide +kernel))
set_option maxHeartbeats 1000000 in
theorem rL_isLinked {l : Launch} (hl : l.stackTraces = false) {G : zG} {S S1 : zS} {J : Int64} {E : UInt64} {d mc ms : Nat} {x y : Nat} {q : Bool} (h : nCR l G mX5_isLinked d mc ms [.ref 0, zi x, zi y] S J E (some (zi q.toNat)) S1 J E) : wCR l G mL_isLinked hhL_isLinked (d + 1) mc ms [.ref 0, zi x, zi y] S J E (some (zi q.toNat)) S1 J E := by
  refine wCR.of hl (by decide) rfl (Nat.le_of_ble_eq_true rfl) (ls := [some (.ref 0), some (zi x), some (zi y), none]) rfl (fun X C W hF hX => ?_)
  subst hX
  refine sw_aload_0 C dL_isLinked_0 ?_
  refine sw_iload_1 C dL_isLinked_1 ?_
  refine sw_iload_2 C dL_isLinked_2 ?_
  refine sn_cV2r C vX5_isLinked lL_53 rfl (by decide) rfl rfl dL_isLinked_3 (Nat.le_of_ble_eq_true rfl) h (Nat.le_refl _) (by omega) (by omega) ?_
  refine sw_if_eq C 13 dL_isLinked_6 (by decide) (fun c => ?_) (fun c => ?_)
  · refine sn_iconst C 0 (by decide) dL_isLinked_13 ?_
    exact sn_iret C rfl hF dL_isLinked_14 (by omega) (by omega) (by cases q <;> first | rfl | exact absurd c (by decide)) rfl rfl rfl
  · refine sn_iconst C 1 (by decide) dL_isLinked_9 ?_
    refine sw_goto C 14 dL_isLinked_10 (by decide) ?_
    exact sn_iret C rfl hF dL_isLinked_14 (by omega) (by omega) (by cases q <;> first | rfl | exact absurd rfl c) rfl rfl rfl
theorem eL_isLinked_1 : wSel RL "java/lang/IndexOutOfBoundsException" hhL_isLinked 3 15 := ⟨(tableOf hhL_isLinked).take 0, (tableOf hhL_isLinked).get ⟨0, by decide⟩, (tableOf hhL_isLinked).drop 1, rfl, (fun z hz => by cases hz), by decide, by decide, rfl, "java/lang/IndexOutOfBoundsException", qL_20, qC_IndexOutOfBoundsException⟩
set_option maxHeartbeats 1000000 in
theorem tL_isLinked_1 {l : Launch} (hl : l.stackTraces = false) {G : zG} {S S1 : zS} {J : Int64} {E : UInt64} {d mc ms : Nat} {x y : Nat} (h : nCT l G mX5_isLinked d mc ms [.ref 0, zi x, zi y] S J E "java/lang/IndexOutOfBoundsException" S1 J E) : wCR l G mL_isLinked hhL_isLinked (d + 1) mc ms [.ref 0, zi x, zi y] S J E (some (zi 4294967295)) S1 J E := by
  refine wCR.of hl (by decide) rfl (Nat.le_of_ble_eq_true rfl) (ls := [some (.ref 0), some (zi x), some (zi y), none]) rfl (fun X C W hF hX => ?_)
  subst hX
  refine sw_aload_0 C dL_isLinked_0 ?_
  refine sw_iload_1 C dL_isLinked_1 ?_
  refine sw_iload_2 C dL_isLinked_2 ?_
  refine sw_callV_C (as := [zi x, zi y]) (st := []) (i := 3) (hpc := 15) (len := 1) C W vX5_isLinked kL_53 rfl (by decide) rfl rfl dL_isLinked_3 rfl (Nat.le_of_ble_eq_true rfl) h (Nat.le_refl _) (by omega) (by omega) eL_isLinked_1 (Nat.le_of_ble_eq_true rfl) (fun u hu => by cases hu; rfl) (Or.inr ⟨3, rfl, dL_isLinked_15, rfl⟩) (ls' := [some (.ref 0), some (zi x), some (zi y), none]) rfl ?_
  refine sn_iconst C 4294967295 (by decide) dL_isLinked_16 ?_
  exact sn_iret C rfl hF dL_isLinked_17 (by omega) (by omega) rfl rfl rfl rfl
abbrev hhL_hive : zHh := [(0, 5, 6, 20)]
theorem wL_hive : Cond.codeWith mL_hive.1 mL_hive.2.1 mL_hive.2.2.1 mL_hive.2.2.2 hhL_hive ∈ lw_tbl := (List.mem_of_getElem? (i := 1334) (by decide +kernel))
theorem sL_hive : Cond.static mL_hive.1 ∈ lw_tbl := (List.mem_of_getElem? (i := 1333) (by decide +kernel))
set_option maxHeartbeats 1000000 in
theorem rL_hive {l : Launch} (hl : l.stackTraces = false) {G : zG} {S S1 : zS} {J : Int64} {E : UInt64} {d mc ms : Nat} {x : Nat} {v : Nat} (h : nCR l G mX5_hive d mc ms [.ref 0, zi x] S J E (some (zi v)) S1 J E) : wCR l G mL_hive hhL_hive (d + 1) mc ms [.ref 0, zi x] S J E (some (zi v)) S1 J E := by
  refine wCR.of hl (by decide) rfl (Nat.le_of_ble_eq_true rfl) (ls := [some (.ref 0), some (zi x), none]) rfl (fun X C W hF hX => ?_)
  subst hX
  refine sw_aload_0 C dL_hive_0 ?_
  refine sw_iload_1 C dL_hive_1 ?_
  refine sn_cV1r C vX5_hive lL_47 rfl (by decide) rfl rfl dL_hive_2 (Nat.le_of_ble_eq_true rfl) h (Nat.le_refl _) (by omega) (by omega) ?_
  exact sn_iret C rfl hF dL_hive_5 (by omega) (by omega) rfl rfl rfl rfl
theorem eL_hive_1 : wSel RL "java/lang/IndexOutOfBoundsException" hhL_hive 2 6 := ⟨(tableOf hhL_hive).take 0, (tableOf hhL_hive).get ⟨0, by decide⟩, (tableOf hhL_hive).drop 1, rfl, (fun z hz => by cases hz), by decide, by decide, rfl, "java/lang/IndexOutOfBoundsException", qL_20, qC_IndexOutOfBoundsException⟩
set_option maxHeartbeats 1000000 in
theorem tL_hive_1 {l : Launch} (hl : l.stackTraces = false) {G : zG} {S S1 : zS} {J : Int64} {E : UInt64} {d mc ms : Nat} {x : Nat} (h : nCT l G mX5_hive d mc ms [.ref 0, zi x] S J E "java/lang/IndexOutOfBoundsException" S1 J E) : wCR l G mL_hive hhL_hive (d + 1) mc ms [.ref 0, zi x] S J E (some (zi 4294967295)) S1 J E := by
  refine wCR.of hl (by decide) rfl (Nat.le_of_ble_eq_true rfl) (ls := [some (.ref 0), some (zi x), none]) rfl (fun X C W hF hX => ?_)
  subst hX
  refine sw_aload_0 C dL_hive_0 ?_
  refine sw_iload_1 C dL_hive_1 ?_
  refine sw_callV_C (as := [zi x]) (st := []) (i := 2) (hpc := 6) (len := 1) C W vX5_hive kL_47 rfl (by decide) rfl rfl dL_hive_2 rfl (Nat.le_of_ble_eq_true rfl) h (Nat.le_refl _) (by omega) (by omega) eL_hive_1 (Nat.le_of_ble_eq_true rfl) (fun u hu => by cases hu; rfl) (Or.inr ⟨2, rfl, dL_hive_6, rfl⟩) (ls' := [some (.ref 0), some (zi x), none]) rfl ?_
  refine sn_iconst C 4294967295 (by decide) dL_hive_7 ?_
  exact sn_iret C rfl hF dL_hive_8 (by omega) (by omega) rfl rfl rfl rfl
abbrev hhL_neighbourCount : zHh := [(0, 5, 6, 20)]
theorem wL_neighbourCount : Cond.codeWith mL_neighbourCount.1 mL_neighbourCount.2.1 mL_neighbourCount.2.2.1 mL_neighbourCount.2.2.2 hhL_neighbourCount ∈ lw_tbl := (List.mem_of_getElem? (i := 1342) (by decide +kernel))
theorem sL_neighbourCount : Cond.static mL_neighbourCount.1 ∈ lw_tbl := (List.mem_of_getElem? (i := 1341) (by decide +kernel))
set_option maxHeartbeats 1000000 in
theorem rL_neighbourCount {l : Launch} (hl : l.stackTraces = false) {G : zG} {S S1 : zS} {J : Int64} {E : UInt64} {d mc ms : Nat} {x : Nat} {v : Nat} (h : nCR l G mX5_neighbourCount d mc ms [.ref 0, zi x] S J E (some (zi v)) S1 J E) : wCR l G mL_neighbourCount hhL_neighbourCount (d + 1) mc ms [.ref 0, zi x] S J E (some (zi v)) S1 J E := by
  refine wCR.of hl (by decide) rfl (Nat.le_of_ble_eq_true rfl) (ls := [some (.ref 0), some (zi x), none]) rfl (fun X C W hF hX => ?_)
  subst hX
  refine sw_aload_0 C dL_neighbourCount_0 ?_
  refine sw_iload_1 C dL_neighbourCount_1 ?_
  refine sn_cV1r C vX5_neighbourCount lL_56 rfl (by decide) rfl rfl dL_neighbourCount_2 (Nat.le_of_ble_eq_true rfl) h (Nat.le_refl _) (by omega) (by omega) ?_
  exact sn_iret C rfl hF dL_neighbourCount_5 (by omega) (by omega) rfl rfl rfl rfl
theorem eL_neighbourCount_1 : wSel RL "java/lang/IndexOutOfBoundsException" hhL_neighbourCount 2 6 := ⟨(tableOf hhL_neighbourCount).take 0, (tableOf hhL_neighbourCount).get ⟨0, by decide⟩, (tableOf hhL_neighbourCount).drop 1, rfl, (fun z hz => by cases hz), by decide, by decide, rfl, "java/lang/IndexOutOfBoundsException", qL_20, qC_IndexOutOfBoundsException⟩
set_option maxHeartbeats 1000000 in
theorem tL_neighbourCount_1 {l : Launch} (hl : l.stackTraces = false) {G : zG} {S S1 : zS} {J : Int64} {E : UInt64} {d mc ms : Nat} {x : Nat} (h : nCT l G mX5_neighbourCount d mc ms [.ref 0, zi x] S J E "java/lang/IndexOutOfBoundsException" S1 J E) : wCR l G mL_neighbourCount hhL_neighbourCount (d + 1) mc ms [.ref 0, zi x] S J E (some (zi 4294967295)) S1 J E := by
  refine wCR.of hl (by decide) rfl (Nat.le_of_ble_eq_true rfl) (ls := [some (.ref 0), some (zi x), none]) rfl (fun X C W hF hX => ?_)
  subst hX
  refine sw_aload_0 C dL_neighbourCount_0 ?_
  refine sw_iload_1 C dL_neighbourCount_1 ?_
  refine sw_callV_C (as := [zi x]) (st := []) (i := 2) (hpc := 6) (len := 1) C W vX5_neighbourCount kL_56 rfl (by decide) rfl rfl dL_neighbourCount_2 rfl (Nat.le_of_ble_eq_true rfl) h (Nat.le_refl _) (by omega) (by omega) eL_neighbourCount_1 (Nat.le_of_ble_eq_true rfl) (fun u hu => by cases hu; rfl) (Or.inr ⟨2, rfl, dL_neighbourCount_6, rfl⟩) (ls' := [some (.ref 0), some (zi x), none]) rfl ?_
  refine sn_iconst C 4294967295 (by decide) dL_neighbourCount_7 ?_
  exact sn_iret C rfl hF dL_neighbourCount_8 (by omega) (by omega) rfl rfl rfl rfl
abbrev hhL_isSpreader : zHh := [(0, 14, 15, 20)]
theorem wL_isSpreader : Cond.codeWith mL_isSpreader.1 mL_isSpreader.2.1 mL_isSpreader.2.2.1 mL_isSpreader.2.2.2 hhL_isSpreader ∈ lw_tbl := (List.mem_of_getElem? (i := 1352) (by decide +kernel))
theorem sL_isSpreader : Cond.static mL_isSpreader.1 ∈ lw_tbl := (List.mem_of_getElem? (i := 1351) (by decide +kernel))
set_option maxHeartbeats 1000000 in
theorem rL_isSpreader {l : Launch} (hl : l.stackTraces = false) {G : zG} {S S1 : zS} {J : Int64} {E : UInt64} {d mc ms : Nat} {x y : Nat} {q : Bool} (h : nCR l G mX5_isSpreader d mc ms [.ref 0, zi x, zi y] S J E (some (zi q.toNat)) S1 J E) : wCR l G mL_isSpreader hhL_isSpreader (d + 1) mc ms [.ref 0, zi x, zi y] S J E (some (zi q.toNat)) S1 J E := by
  refine wCR.of hl (by decide) rfl (Nat.le_of_ble_eq_true rfl) (ls := [some (.ref 0), some (zi x), some (zi y), none]) rfl (fun X C W hF hX => ?_)
  subst hX
  refine sw_aload_0 C dL_isSpreader_0 ?_
  refine sw_iload_1 C dL_isSpreader_1 ?_
  refine sw_iload_2 C dL_isSpreader_2 ?_
  refine sn_cV2r C vX5_isSpreader lL_72 rfl (by decide) rfl rfl dL_isSpreader_3 (Nat.le_of_ble_eq_true rfl) h (Nat.le_refl _) (by omega) (by omega) ?_
  refine sw_if_eq C 13 dL_isSpreader_6 (by decide) (fun c => ?_) (fun c => ?_)
  · refine sn_iconst C 0 (by decide) dL_isSpreader_13 ?_
    exact sn_iret C rfl hF dL_isSpreader_14 (by omega) (by omega) (by cases q <;> first | rfl | exact absurd c (by decide)) rfl rfl rfl
  · refine sn_iconst C 1 (by decide) dL_isSpreader_9 ?_
    refine sw_goto C 14 dL_isSpreader_10 (by decide) ?_
    exact sn_iret C rfl hF dL_isSpreader_14 (by omega) (by omega) (by cases q <;> first | rfl | exact absurd rfl c) rfl rfl rfl
theorem eL_isSpreader_1 : wSel RL "java/lang/IndexOutOfBoundsException" hhL_isSpreader 3 15 := ⟨(tableOf hhL_isSpreader).take 0, (tableOf hhL_isSpreader).get ⟨0, by decide⟩, (tableOf hhL_isSpreader).drop 1, rfl, (fun z hz => by cases hz), by decide, by decide, rfl, "java/lang/IndexOutOfBoundsException", qL_20, qC_IndexOutOfBoundsException⟩
set_option maxHeartbeats 1000000 in
theorem tL_isSpreader_1 {l : Launch} (hl : l.stackTraces = false) {G : zG} {S S1 : zS} {J : Int64} {E : UInt64} {d mc ms : Nat} {x y : Nat} (h : nCT l G mX5_isSpreader d mc ms [.ref 0, zi x, zi y] S J E "java/lang/IndexOutOfBoundsException" S1 J E) : wCR l G mL_isSpreader hhL_isSpreader (d + 1) mc ms [.ref 0, zi x, zi y] S J E (some (zi 4294967295)) S1 J E := by
  refine wCR.of hl (by decide) rfl (Nat.le_of_ble_eq_true rfl) (ls := [some (.ref 0), some (zi x), some (zi y), none]) rfl (fun X C W hF hX => ?_)
  subst hX
  refine sw_aload_0 C dL_isSpreader_0 ?_
  refine sw_iload_1 C dL_isSpreader_1 ?_
  refine sw_iload_2 C dL_isSpreader_2 ?_
  refine sw_callV_C (as := [zi x, zi y]) (st := []) (i := 3) (hpc := 15) (len := 1) C W vX5_isSpreader kL_72 rfl (by decide) rfl rfl dL_isSpreader_3 rfl (Nat.le_of_ble_eq_true rfl) h (Nat.le_refl _) (by omega) (by omega) eL_isSpreader_1 (Nat.le_of_ble_eq_true rfl) (fun u hu => by cases hu; rfl) (Or.inr ⟨3, rfl, dL_isSpreader_15, rfl⟩) (ls' := [some (.ref 0), some (zi x), some (zi y), none]) rfl ?_
  refine sn_iconst C 4294967295 (by decide) dL_isSpreader_16 ?_
  exact sn_iret C rfl hF dL_isSpreader_17 (by omega) (by omega) rfl rfl rfl rfl
abbrev hhL_listenerByGossip : zHh := [(0, 5, 6, 25)]
theorem wL_listenerByGossip : Cond.codeWith mL_listenerByGossip.1 mL_listenerByGossip.2.1 mL_listenerByGossip.2.2.1 mL_listenerByGossip.2.2.2 hhL_listenerByGossip ∈ lw_tbl := (List.mem_of_getElem? (i := 1359) (by decide +kernel))
theorem sL_listenerByGossip : Cond.static mL_listenerByGossip.1 ∈ lw_tbl := (List.mem_of_getElem? (i := 1358) (by decide +kernel))
set_option maxHeartbeats 1000000 in
theorem rL_listenerByGossip {l : Launch} (hl : l.stackTraces = false) {G : zG} {S S1 : zS} {J : Int64} {E : UInt64} {d mc ms : Nat} {x : Nat} {v : Nat} (h : nCR l G mX5_listenerByGossip d mc ms [.ref 0, zi x] S J E (some (zi v)) S1 J E) : wCR l G mL_listenerByGossip hhL_listenerByGossip (d + 1) mc ms [.ref 0, zi x] S J E (some (zi v)) S1 J E := by
  refine wCR.of hl (by decide) rfl (Nat.le_of_ble_eq_true rfl) (ls := [some (.ref 0), some (zi x), none]) rfl (fun X C W hF hX => ?_)
  subst hX
  refine sw_aload_0 C dL_listenerByGossip_0 ?_
  refine sw_iload_1 C dL_listenerByGossip_1 ?_
  refine sn_cV1r C vX5_listenerByGossip lL_111 rfl (by decide) rfl rfl dL_listenerByGossip_2 (Nat.le_of_ble_eq_true rfl) h (Nat.le_refl _) (by omega) (by omega) ?_
  exact sn_iret C rfl hF dL_listenerByGossip_5 (by omega) (by omega) rfl rfl rfl rfl
theorem eL_listenerByGossip_1 : wSel RL "java/util/NoSuchElementException" hhL_listenerByGossip 2 6 := ⟨(tableOf hhL_listenerByGossip).take 0, (tableOf hhL_listenerByGossip).get ⟨0, by decide⟩, (tableOf hhL_listenerByGossip).drop 1, rfl, (fun z hz => by cases hz), by decide, by decide, rfl, "java/util/NoSuchElementException", qL_25, qC_NoSuchElementException⟩
set_option maxHeartbeats 1000000 in
theorem tL_listenerByGossip_1 {l : Launch} (hl : l.stackTraces = false) {G : zG} {S S1 : zS} {J : Int64} {E : UInt64} {d mc ms : Nat} {x : Nat} (h : nCT l G mX5_listenerByGossip d mc ms [.ref 0, zi x] S J E "java/util/NoSuchElementException" S1 J E) : wCR l G mL_listenerByGossip hhL_listenerByGossip (d + 1) mc ms [.ref 0, zi x] S J E (some (zi 4294967295)) S1 J E := by
  refine wCR.of hl (by decide) rfl (Nat.le_of_ble_eq_true rfl) (ls := [some (.ref 0), some (zi x), none]) rfl (fun X C W hF hX => ?_)
  subst hX
  refine sw_aload_0 C dL_listenerByGossip_0 ?_
  refine sw_iload_1 C dL_listenerByGossip_1 ?_
  refine sw_callV_C (as := [zi x]) (st := []) (i := 2) (hpc := 6) (len := 1) C W vX5_listenerByGossip kL_111 rfl (by decide) rfl rfl dL_listenerByGossip_2 rfl (Nat.le_of_ble_eq_true rfl) h (Nat.le_refl _) (by omega) (by omega) eL_listenerByGossip_1 (Nat.le_of_ble_eq_true rfl) (fun u hu => by cases hu; rfl) (Or.inr ⟨2, rfl, dL_listenerByGossip_6, rfl⟩) (ls' := [some (.ref 0), some (zi x), none]) rfl ?_
  refine sn_iconst C 4294967295 (by decide) dL_listenerByGossip_7 ?_
  exact sn_iret C rfl hF dL_listenerByGossip_8 (by omega) (by omega) rfl rfl rfl rfl
abbrev hhL_hiveSize : zHh := [(0, 5, 6, 20)]
theorem wL_hiveSize : Cond.codeWith mL_hiveSize.1 mL_hiveSize.2.1 mL_hiveSize.2.2.1 mL_hiveSize.2.2.2 hhL_hiveSize ∈ lw_tbl := (List.mem_of_getElem? (i := 1381) (by decide +kernel))
theorem sL_hiveSize : Cond.static mL_hiveSize.1 ∈ lw_tbl := (List.mem_of_getElem? (i := 1380) (by decide +kernel))
set_option maxHeartbeats 1000000 in
theorem rL_hiveSize {l : Launch} (hl : l.stackTraces = false) {G : zG} {S S1 : zS} {J : Int64} {E : UInt64} {d mc ms : Nat} {x : Nat} {v : Nat} (h : nCR l G mX5_hiveSize d mc ms [.ref 0, zi x] S J E (some (zi v)) S1 J E) : wCR l G mL_hiveSize hhL_hiveSize (d + 1) mc ms [.ref 0, zi x] S J E (some (zi v)) S1 J E := by
  refine wCR.of hl (by decide) rfl (Nat.le_of_ble_eq_true rfl) (ls := [some (.ref 0), some (zi x), none]) rfl (fun X C W hF hX => ?_)
  subst hX
  refine sw_aload_0 C dL_hiveSize_0 ?_
  refine sw_iload_1 C dL_hiveSize_1 ?_
  refine sn_cV1r C vX5_hiveSize lL_59 rfl (by decide) rfl rfl dL_hiveSize_2 (Nat.le_of_ble_eq_true rfl) h (Nat.le_refl _) (by omega) (by omega) ?_
  exact sn_iret C rfl hF dL_hiveSize_5 (by omega) (by omega) rfl rfl rfl rfl
theorem eL_hiveSize_1 : wSel RL "java/lang/IndexOutOfBoundsException" hhL_hiveSize 2 6 := ⟨(tableOf hhL_hiveSize).take 0, (tableOf hhL_hiveSize).get ⟨0, by decide⟩, (tableOf hhL_hiveSize).drop 1, rfl, (fun z hz => by cases hz), by decide, by decide, rfl, "java/lang/IndexOutOfBoundsException", qL_20, qC_IndexOutOfBoundsException⟩
set_option maxHeartbeats 1000000 in
theorem tL_hiveSize_1 {l : Launch} (hl : l.stackTraces = false) {G : zG} {S S1 : zS} {J : Int64} {E : UInt64} {d mc ms : Nat} {x : Nat} (h : nCT l G mX5_hiveSize d mc ms [.ref 0, zi x] S J E "java/lang/IndexOutOfBoundsException" S1 J E) : wCR l G mL_hiveSize hhL_hiveSize (d + 1) mc ms [.ref 0, zi x] S J E (some (zi 4294967295)) S1 J E := by
  refine wCR.of hl (by decide) rfl (Nat.le_of_ble_eq_true rfl) (ls := [some (.ref 0), some (zi x), none]) rfl (fun X C W hF hX => ?_)
  subst hX
  refine sw_aload_0 C dL_hiveSize_0 ?_
  refine sw_iload_1 C dL_hiveSize_1 ?_
  refine sw_callV_C (as := [zi x]) (st := []) (i := 2) (hpc := 6) (len := 1) C W vX5_hiveSize kL_59 rfl (by decide) rfl rfl dL_hiveSize_2 rfl (Nat.le_of_ble_eq_true rfl) h (Nat.le_refl _) (by omega) (by omega) eL_hiveSize_1 (Nat.le_of_ble_eq_true rfl) (fun u hu => by cases hu; rfl) (Or.inr ⟨2, rfl, dL_hiveSize_6, rfl⟩) (ls' := [some (.ref 0), some (zi x), none]) rfl ?_
  refine sn_iconst C 4294967295 (by decide) dL_hiveSize_7 ?_
  exact sn_iret C rfl hF dL_hiveSize_8 (by omega) (by omega) rfl rfl rfl rfl
abbrev hhL_strength : zHh := [(0, 5, 6, 20)]
theorem wL_strength : Cond.codeWith mL_strength.1 mL_strength.2.1 mL_strength.2.2.1 mL_strength.2.2.2 hhL_strength ∈ lw_tbl := (List.mem_of_getElem? (i := 1409) (by decide +kernel))
theorem sL_strength : Cond.static mL_strength.1 ∈ lw_tbl := (List.mem_of_getElem? (i := 1408) (by decide +kernel))
set_option maxHeartbeats 1000000 in
theorem rL_strength {l : Launch} (hl : l.stackTraces = false) {G : zG} {S S1 : zS} {J : Int64} {E : UInt64} {d mc ms : Nat} {x : Nat} {v : Nat} (h : nCR l G mX5_strength d mc ms [.ref 0, zi x] S J E (some (zi v)) S1 J E) : wCR l G mL_strength hhL_strength (d + 1) mc ms [.ref 0, zi x] S J E (some (zi v)) S1 J E := by
  refine wCR.of hl (by decide) rfl (Nat.le_of_ble_eq_true rfl) (ls := [some (.ref 0), some (zi x), none]) rfl (fun X C W hF hX => ?_)
  subst hX
  refine sw_aload_0 C dL_strength_0 ?_
  refine sw_iload_1 C dL_strength_1 ?_
  refine sn_cV1r C vX5_strength lL_62 rfl (by decide) rfl rfl dL_strength_2 (Nat.le_of_ble_eq_true rfl) h (Nat.le_refl _) (by omega) (by omega) ?_
  exact sn_iret C rfl hF dL_strength_5 (by omega) (by omega) rfl rfl rfl rfl
theorem eL_strength_1 : wSel RL "java/lang/IndexOutOfBoundsException" hhL_strength 2 6 := ⟨(tableOf hhL_strength).take 0, (tableOf hhL_strength).get ⟨0, by decide⟩, (tableOf hhL_strength).drop 1, rfl, (fun z hz => by cases hz), by decide, by decide, rfl, "java/lang/IndexOutOfBoundsException", qL_20, qC_IndexOutOfBoundsException⟩
set_option maxHeartbeats 1000000 in
theorem tL_strength_1 {l : Launch} (hl : l.stackTraces = false) {G : zG} {S S1 : zS} {J : Int64} {E : UInt64} {d mc ms : Nat} {x : Nat} (h : nCT l G mX5_strength d mc ms [.ref 0, zi x] S J E "java/lang/IndexOutOfBoundsException" S1 J E) : wCR l G mL_strength hhL_strength (d + 1) mc ms [.ref 0, zi x] S J E (some (zi 4294967295)) S1 J E := by
  refine wCR.of hl (by decide) rfl (Nat.le_of_ble_eq_true rfl) (ls := [some (.ref 0), some (zi x), none]) rfl (fun X C W hF hX => ?_)
  subst hX
  refine sw_aload_0 C dL_strength_0 ?_
  refine sw_iload_1 C dL_strength_1 ?_
  refine sw_callV_C (as := [zi x]) (st := []) (i := 2) (hpc := 6) (len := 1) C W vX5_strength kL_62 rfl (by decide) rfl rfl dL_strength_2 rfl (Nat.le_of_ble_eq_true rfl) h (Nat.le_refl _) (by omega) (by omega) eL_strength_1 (Nat.le_of_ble_eq_true rfl) (fun u hu => by cases hu; rfl) (Or.inr ⟨2, rfl, dL_strength_6, rfl⟩) (ls' := [some (.ref 0), some (zi x), none]) rfl ?_
  refine sn_iconst C 4294967295 (by decide) dL_strength_7 ?_
  exact sn_iret C rfl hF dL_strength_8 (by omega) (by omega) rfl rfl rfl rfl
abbrev hhL_isAlive : zHh := [(0, 13, 14, 20)]
theorem wL_isAlive : Cond.codeWith mL_isAlive.1 mL_isAlive.2.1 mL_isAlive.2.2.1 mL_isAlive.2.2.2 hhL_isAlive ∈ lw_tbl := (List.mem_of_getElem? (i := 1416) (by decide +kernel))
theorem sL_isAlive : Cond.static mL_isAlive.1 ∈ lw_tbl := (List.mem_of_getElem? (i := 1415) (by decide +kernel))
set_option maxHeartbeats 1000000 in
theorem rL_isAlive {l : Launch} (hl : l.stackTraces = false) {G : zG} {S S1 : zS} {J : Int64} {E : UInt64} {d mc ms : Nat} {x : Nat} {q : Bool} (h : nCR l G mX5_isAlive d mc ms [.ref 0, zi x] S J E (some (zi q.toNat)) S1 J E) : wCR l G mL_isAlive hhL_isAlive (d + 1) mc ms [.ref 0, zi x] S J E (some (zi q.toNat)) S1 J E := by
  refine wCR.of hl (by decide) rfl (Nat.le_of_ble_eq_true rfl) (ls := [some (.ref 0), some (zi x), none]) rfl (fun X C W hF hX => ?_)
  subst hX
  refine sw_aload_0 C dL_isAlive_0 ?_
  refine sw_iload_1 C dL_isAlive_1 ?_
  refine sn_cV1r C vX5_isAlive lL_65 rfl (by decide) rfl rfl dL_isAlive_2 (Nat.le_of_ble_eq_true rfl) h (Nat.le_refl _) (by omega) (by omega) ?_
  refine sw_if_eq C 12 dL_isAlive_5 (by decide) (fun c => ?_) (fun c => ?_)
  · refine sn_iconst C 0 (by decide) dL_isAlive_12 ?_
    exact sn_iret C rfl hF dL_isAlive_13 (by omega) (by omega) (by cases q <;> first | rfl | exact absurd c (by decide)) rfl rfl rfl
  · refine sn_iconst C 1 (by decide) dL_isAlive_8 ?_
    refine sw_goto C 13 dL_isAlive_9 (by decide) ?_
    exact sn_iret C rfl hF dL_isAlive_13 (by omega) (by omega) (by cases q <;> first | rfl | exact absurd rfl c) rfl rfl rfl
theorem eL_isAlive_1 : wSel RL "java/lang/IndexOutOfBoundsException" hhL_isAlive 2 14 := ⟨(tableOf hhL_isAlive).take 0, (tableOf hhL_isAlive).get ⟨0, by decide⟩, (tableOf hhL_isAlive).drop 1, rfl, (fun z hz => by cases hz), by decide, by decide, rfl, "java/lang/IndexOutOfBoundsException", qL_20, qC_IndexOutOfBoundsException⟩
set_option maxHeartbeats 1000000 in
theorem tL_isAlive_1 {l : Launch} (hl : l.stackTraces = false) {G : zG} {S S1 : zS} {J : Int64} {E : UInt64} {d mc ms : Nat} {x : Nat} (h : nCT l G mX5_isAlive d mc ms [.ref 0, zi x] S J E "java/lang/IndexOutOfBoundsException" S1 J E) : wCR l G mL_isAlive hhL_isAlive (d + 1) mc ms [.ref 0, zi x] S J E (some (zi 4294967295)) S1 J E := by
  refine wCR.of hl (by decide) rfl (Nat.le_of_ble_eq_true rfl) (ls := [some (.ref 0), some (zi x), none]) rfl (fun X C W hF hX => ?_)
  subst hX
  refine sw_aload_0 C dL_isAlive_0 ?_
  refine sw_iload_1 C dL_isAlive_1 ?_
  refine sw_callV_C (as := [zi x]) (st := []) (i := 2) (hpc := 14) (len := 1) C W vX5_isAlive kL_65 rfl (by decide) rfl rfl dL_isAlive_2 rfl (Nat.le_of_ble_eq_true rfl) h (Nat.le_refl _) (by omega) (by omega) eL_isAlive_1 (Nat.le_of_ble_eq_true rfl) (fun u hu => by cases hu; rfl) (Or.inr ⟨2, rfl, dL_isAlive_14, rfl⟩) (ls' := [some (.ref 0), some (zi x), none]) rfl ?_
  refine sn_iconst C 4294967295 (by decide) dL_isAlive_15 ?_
  exact sn_iret C rfl hF dL_isAlive_16 (by omega) (by omega) rfl rfl rfl rfl
abbrev hhL_isSceptic : zHh := [(0, 14, 15, 20)]
theorem wL_isSceptic : Cond.codeWith mL_isSceptic.1 mL_isSceptic.2.1 mL_isSceptic.2.2.1 mL_isSceptic.2.2.2 hhL_isSceptic ∈ lw_tbl := (List.mem_of_getElem? (i := 1435) (by decide +kernel))
theorem sL_isSceptic : Cond.static mL_isSceptic.1 ∈ lw_tbl := (List.mem_of_getElem? (i := 1434) (by decide +kernel))
set_option maxHeartbeats 1000000 in
theorem rL_isSceptic {l : Launch} (hl : l.stackTraces = false) {G : zG} {S S1 : zS} {J : Int64} {E : UInt64} {d mc ms : Nat} {x y : Nat} {q : Bool} (h : nCR l G mX5_isSceptic d mc ms [.ref 0, zi x, zi y] S J E (some (zi q.toNat)) S1 J E) : wCR l G mL_isSceptic hhL_isSceptic (d + 1) mc ms [.ref 0, zi x, zi y] S J E (some (zi q.toNat)) S1 J E := by
  refine wCR.of hl (by decide) rfl (Nat.le_of_ble_eq_true rfl) (ls := [some (.ref 0), some (zi x), some (zi y), none]) rfl (fun X C W hF hX => ?_)
  subst hX
  refine sw_aload_0 C dL_isSceptic_0 ?_
  refine sw_iload_1 C dL_isSceptic_1 ?_
  refine sw_iload_2 C dL_isSceptic_2 ?_
  refine sn_cV2r C vX5_isSceptic lL_75 rfl (by decide) rfl rfl dL_isSceptic_3 (Nat.le_of_ble_eq_true rfl) h (Nat.le_refl _) (by omega) (by omega) ?_
  refine sw_if_eq C 13 dL_isSceptic_6 (by decide) (fun c => ?_) (fun c => ?_)
  · refine sn_iconst C 0 (by decide) dL_isSceptic_13 ?_
    exact sn_iret C rfl hF dL_isSceptic_14 (by omega) (by omega) (by cases q <;> first | rfl | exact absurd c (by decide)) rfl rfl rfl
  · refine sn_iconst C 1 (by decide) dL_isSceptic_9 ?_
    refine sw_goto C 14 dL_isSceptic_10 (by decide) ?_
    exact sn_iret C rfl hF dL_isSceptic_14 (by omega) (by omega) (by cases q <;> first | rfl | exact absurd rfl c) rfl rfl rfl
theorem eL_isSceptic_1 : wSel RL "java/lang/IndexOutOfBoundsException" hhL_isSceptic 3 15 := ⟨(tableOf hhL_isSceptic).take 0, (tableOf hhL_isSceptic).get ⟨0, by decide⟩, (tableOf hhL_isSceptic).drop 1, rfl, (fun z hz => by cases hz), by decide, by decide, rfl, "java/lang/IndexOutOfBoundsException", qL_20, qC_IndexOutOfBoundsException⟩
set_option maxHeartbeats 1000000 in
theorem tL_isSceptic_1 {l : Launch} (hl : l.stackTraces = false) {G : zG} {S S1 : zS} {J : Int64} {E : UInt64} {d mc ms : Nat} {x y : Nat} (h : nCT l G mX5_isSceptic d mc ms [.ref 0, zi x, zi y] S J E "java/lang/IndexOutOfBoundsException" S1 J E) : wCR l G mL_isSceptic hhL_isSceptic (d + 1) mc ms [.ref 0, zi x, zi y] S J E (some (zi 4294967295)) S1 J E := by
  refine wCR.of hl (by decide) rfl (Nat.le_of_ble_eq_true rfl) (ls := [some (.ref 0), some (zi x), some (zi y), none]) rfl (fun X C W hF hX => ?_)
  subst hX
  refine sw_aload_0 C dL_isSceptic_0 ?_
  refine sw_iload_1 C dL_isSceptic_1 ?_
  refine sw_iload_2 C dL_isSceptic_2 ?_
  refine sw_callV_C (as := [zi x, zi y]) (st := []) (i := 3) (hpc := 15) (len := 1) C W vX5_isSceptic kL_75 rfl (by decide) rfl rfl dL_isSceptic_3 rfl (Nat.le_of_ble_eq_true rfl) h (Nat.le_refl _) (by omega) (by omega) eL_isSceptic_1 (Nat.le_of_ble_eq_true rfl) (fun u hu => by cases hu; rfl) (Or.inr ⟨3, rfl, dL_isSceptic_15, rfl⟩) (ls' := [some (.ref 0), some (zi x), some (zi y), none]) rfl ?_
  refine sn_iconst C 4294967295 (by decide) dL_isSceptic_16 ?_
  exact sn_iret C rfl hF dL_isSceptic_17 (by omega) (by omega) rfl rfl rfl rfl
abbrev hhL_spreadersInHive : zHh := [(0, 6, 7, 20)]
theorem wL_spreadersInHive : Cond.codeWith mL_spreadersInHive.1 mL_spreadersInHive.2.1 mL_spreadersInHive.2.2.1 mL_spreadersInHive.2.2.2 hhL_spreadersInHive ∈ lw_tbl := (List.mem_of_getElem? (i := 1442) (by decide +kernel))
theorem sL_spreadersInHive : Cond.static mL_spreadersInHive.1 ∈ lw_tbl := (List.mem_of_getElem? (i := 1441) (by decide +kernel))
set_option maxHeartbeats 1000000 in
theorem rL_spreadersInHive {l : Launch} (hl : l.stackTraces = false) {G : zG} {S S1 : zS} {J : Int64} {E : UInt64} {d mc ms : Nat} {x y : Nat} {v : Nat} (h : nCR l G mX5_spreadersInHive d mc ms [.ref 0, zi x, zi y] S J E (some (zi v)) S1 J E) : wCR l G mL_spreadersInHive hhL_spreadersInHive (d + 1) mc ms [.ref 0, zi x, zi y] S J E (some (zi v)) S1 J E := by
  refine wCR.of hl (by decide) rfl (Nat.le_of_ble_eq_true rfl) (ls := [some (.ref 0), some (zi x), some (zi y), none]) rfl (fun X C W hF hX => ?_)
  subst hX
  refine sw_aload_0 C dL_spreadersInHive_0 ?_
  refine sw_iload_1 C dL_spreadersInHive_1 ?_
  refine sw_iload_2 C dL_spreadersInHive_2 ?_
  refine sn_cV2r C vX5_spreadersInHive lL_90 rfl (by decide) rfl rfl dL_spreadersInHive_3 (Nat.le_of_ble_eq_true rfl) h (Nat.le_refl _) (by omega) (by omega) ?_
  exact sn_iret C rfl hF dL_spreadersInHive_6 (by omega) (by omega) rfl rfl rfl rfl
theorem eL_spreadersInHive_1 : wSel RL "java/lang/IndexOutOfBoundsException" hhL_spreadersInHive 3 7 := ⟨(tableOf hhL_spreadersInHive).take 0, (tableOf hhL_spreadersInHive).get ⟨0, by decide⟩, (tableOf hhL_spreadersInHive).drop 1, rfl, (fun z hz => by cases hz), by decide, by decide, rfl, "java/lang/IndexOutOfBoundsException", qL_20, qC_IndexOutOfBoundsException⟩
set_option maxHeartbeats 1000000 in
theorem tL_spreadersInHive_1 {l : Launch} (hl : l.stackTraces = false) {G : zG} {S S1 : zS} {J : Int64} {E : UInt64} {d mc ms : Nat} {x y : Nat} (h : nCT l G mX5_spreadersInHive d mc ms [.ref 0, zi x, zi y] S J E "java/lang/IndexOutOfBoundsException" S1 J E) : wCR l G mL_spreadersInHive hhL_spreadersInHive (d + 1) mc ms [.ref 0, zi x, zi y] S J E (some (zi 4294967295)) S1 J E := by
  refine wCR.of hl (by decide) rfl (Nat.le_of_ble_eq_true rfl) (ls := [some (.ref 0), some (zi x), some (zi y), none]) rfl (fun X C W hF hX => ?_)
  subst hX
  refine sw_aload_0 C dL_spreadersInHive_0 ?_
  refine sw_iload_1 C dL_spreadersInHive_1 ?_
  refine sw_iload_2 C dL_spreadersInHive_2 ?_
  refine sw_callV_C (as := [zi x, zi y]) (st := []) (i := 3) (hpc := 7) (len := 1) C W vX5_spreadersInHive kL_90 rfl (by decide) rfl rfl dL_spreadersInHive_3 rfl (Nat.le_of_ble_eq_true rfl) h (Nat.le_refl _) (by omega) (by omega) eL_spreadersInHive_1 (Nat.le_of_ble_eq_true rfl) (fun u hu => by cases hu; rfl) (Or.inr ⟨3, rfl, dL_spreadersInHive_7, rfl⟩) (ls' := [some (.ref 0), some (zi x), some (zi y), none]) rfl ?_
  refine sn_iconst C 4294967295 (by decide) dL_spreadersInHive_8 ?_
  exact sn_iret C rfl hF dL_spreadersInHive_9 (by omega) (by omega) rfl rfl rfl rfl
abbrev hhL_spreaderCount : zHh := [(0, 5, 6, 20)]
theorem wL_spreaderCount : Cond.codeWith mL_spreaderCount.1 mL_spreaderCount.2.1 mL_spreaderCount.2.2.1 mL_spreaderCount.2.2.2 hhL_spreaderCount ∈ lw_tbl := (List.mem_of_getElem? (i := 1449) (by decide +kernel))
theorem sL_spreaderCount : Cond.static mL_spreaderCount.1 ∈ lw_tbl := (List.mem_of_getElem? (i := 1448) (by decide +kernel))
set_option maxHeartbeats 1000000 in
theorem rL_spreaderCount {l : Launch} (hl : l.stackTraces = false) {G : zG} {S S1 : zS} {J : Int64} {E : UInt64} {d mc ms : Nat} {x : Nat} {v : Nat} (h : nCR l G mX5_spreaderCount d mc ms [.ref 0, zi x] S J E (some (zi v)) S1 J E) : wCR l G mL_spreaderCount hhL_spreaderCount (d + 1) mc ms [.ref 0, zi x] S J E (some (zi v)) S1 J E := by
  refine wCR.of hl (by decide) rfl (Nat.le_of_ble_eq_true rfl) (ls := [some (.ref 0), some (zi x), none]) rfl (fun X C W hF hX => ?_)
  subst hX
  refine sw_aload_0 C dL_spreaderCount_0 ?_
  refine sw_iload_1 C dL_spreaderCount_1 ?_
  refine sn_cV1r C vX5_spreaderCount lL_81 rfl (by decide) rfl rfl dL_spreaderCount_2 (Nat.le_of_ble_eq_true rfl) h (Nat.le_refl _) (by omega) (by omega) ?_
  exact sn_iret C rfl hF dL_spreaderCount_5 (by omega) (by omega) rfl rfl rfl rfl
theorem eL_spreaderCount_1 : wSel RL "java/lang/IndexOutOfBoundsException" hhL_spreaderCount 2 6 := ⟨(tableOf hhL_spreaderCount).take 0, (tableOf hhL_spreaderCount).get ⟨0, by decide⟩, (tableOf hhL_spreaderCount).drop 1, rfl, (fun z hz => by cases hz), by decide, by decide, rfl, "java/lang/IndexOutOfBoundsException", qL_20, qC_IndexOutOfBoundsException⟩
set_option maxHeartbeats 1000000 in
theorem tL_spreaderCount_1 {l : Launch} (hl : l.stackTraces = false) {G : zG} {S S1 : zS} {J : Int64} {E : UInt64} {d mc ms : Nat} {x : Nat} (h : nCT l G mX5_spreaderCount d mc ms [.ref 0, zi x] S J E "java/lang/IndexOutOfBoundsException" S1 J E) : wCR l G mL_spreaderCount hhL_spreaderCount (d + 1) mc ms [.ref 0, zi x] S J E (some (zi 4294967295)) S1 J E := by
  refine wCR.of hl (by decide) rfl (Nat.le_of_ble_eq_true rfl) (ls := [some (.ref 0), some (zi x), none]) rfl (fun X C W hF hX => ?_)
  subst hX
  refine sw_aload_0 C dL_spreaderCount_0 ?_
  refine sw_iload_1 C dL_spreaderCount_1 ?_
  refine sw_callV_C (as := [zi x]) (st := []) (i := 2) (hpc := 6) (len := 1) C W vX5_spreaderCount kL_81 rfl (by decide) rfl rfl dL_spreaderCount_2 rfl (Nat.le_of_ble_eq_true rfl) h (Nat.le_refl _) (by omega) (by omega) eL_spreaderCount_1 (Nat.le_of_ble_eq_true rfl) (fun u hu => by cases hu; rfl) (Or.inr ⟨2, rfl, dL_spreaderCount_6, rfl⟩) (ls' := [some (.ref 0), some (zi x), none]) rfl ?_
  refine sn_iconst C 4294967295 (by decide) dL_spreaderCount_7 ?_
  exact sn_iret C rfl hF dL_spreaderCount_8 (by omega) (by omega) rfl rfl rfl rfl
abbrev hhL_scepticCount : zHh := [(0, 5, 6, 20)]
theorem wL_scepticCount : Cond.codeWith mL_scepticCount.1 mL_scepticCount.2.1 mL_scepticCount.2.2.1 mL_scepticCount.2.2.2 hhL_scepticCount ∈ lw_tbl := (List.mem_of_getElem? (i := 1456) (by decide +kernel))
theorem sL_scepticCount : Cond.static mL_scepticCount.1 ∈ lw_tbl := (List.mem_of_getElem? (i := 1455) (by decide +kernel))
set_option maxHeartbeats 1000000 in
theorem rL_scepticCount {l : Launch} (hl : l.stackTraces = false) {G : zG} {S S1 : zS} {J : Int64} {E : UInt64} {d mc ms : Nat} {x : Nat} {v : Nat} (h : nCR l G mX5_scepticCount d mc ms [.ref 0, zi x] S J E (some (zi v)) S1 J E) : wCR l G mL_scepticCount hhL_scepticCount (d + 1) mc ms [.ref 0, zi x] S J E (some (zi v)) S1 J E := by
  refine wCR.of hl (by decide) rfl (Nat.le_of_ble_eq_true rfl) (ls := [some (.ref 0), some (zi x), none]) rfl (fun X C W hF hX => ?_)
  subst hX
  refine sw_aload_0 C dL_scepticCount_0 ?_
  refine sw_iload_1 C dL_scepticCount_1 ?_
  refine sn_cV1r C vX5_scepticCount lL_84 rfl (by decide) rfl rfl dL_scepticCount_2 (Nat.le_of_ble_eq_true rfl) h (Nat.le_refl _) (by omega) (by omega) ?_
  exact sn_iret C rfl hF dL_scepticCount_5 (by omega) (by omega) rfl rfl rfl rfl
theorem eL_scepticCount_1 : wSel RL "java/lang/IndexOutOfBoundsException" hhL_scepticCount 2 6 := ⟨(tableOf hhL_scepticCount).take 0, (tableOf hhL_scepticCount).get ⟨0, by decide⟩, (tableOf hhL_scepticCount).drop 1, rfl, (fun z hz => by cases hz), by decide, by decide, rfl, "java/lang/IndexOutOfBoundsException", qL_20, qC_IndexOutOfBoundsException⟩
set_option maxHeartbeats 1000000 in
theorem tL_scepticCount_1 {l : Launch} (hl : l.stackTraces = false) {G : zG} {S S1 : zS} {J : Int64} {E : UInt64} {d mc ms : Nat} {x : Nat} (h : nCT l G mX5_scepticCount d mc ms [.ref 0, zi x] S J E "java/lang/IndexOutOfBoundsException" S1 J E) : wCR l G mL_scepticCount hhL_scepticCount (d + 1) mc ms [.ref 0, zi x] S J E (some (zi 4294967295)) S1 J E := by
  refine wCR.of hl (by decide) rfl (Nat.le_of_ble_eq_true rfl) (ls := [some (.ref 0), some (zi x), none]) rfl (fun X C W hF hX => ?_)
  subst hX
  refine sw_aload_0 C dL_scepticCount_0 ?_
  refine sw_iload_1 C dL_scepticCount_1 ?_
  refine sw_callV_C (as := [zi x]) (st := []) (i := 2) (hpc := 6) (len := 1) C W vX5_scepticCount kL_84 rfl (by decide) rfl rfl dL_scepticCount_2 rfl (Nat.le_of_ble_eq_true rfl) h (Nat.le_refl _) (by omega) (by omega) eL_scepticCount_1 (Nat.le_of_ble_eq_true rfl) (fun u hu => by cases hu; rfl) (Or.inr ⟨2, rfl, dL_scepticCount_6, rfl⟩) (ls' := [some (.ref 0), some (zi x), none]) rfl ?_
  refine sn_iconst C 4294967295 (by decide) dL_scepticCount_7 ?_
  exact sn_iret C rfl hF dL_scepticCount_8 (by omega) (by omega) rfl rfl rfl rfl
abbrev hhL_countedHive : zHh := [(0, 5, 6, 20), (0, 5, 9, 25)]
theorem wL_countedHive : Cond.codeWith mL_countedHive.1 mL_countedHive.2.1 mL_countedHive.2.2.1 mL_countedHive.2.2.2 hhL_countedHive ∈ lw_tbl := (List.mem_of_getElem? (i := 1463) (by decide +kernel))
theorem sL_countedHive : Cond.static mL_countedHive.1 ∈ lw_tbl := (List.mem_of_getElem? (i := 1462) (by decide +kernel))
set_option maxHeartbeats 1000000 in
theorem rL_countedHive {l : Launch} (hl : l.stackTraces = false) {G : zG} {S S1 : zS} {J : Int64} {E : UInt64} {d mc ms : Nat} {x : Nat} {v : Nat} (h : nCR l G mX5_countedHive d mc ms [.ref 0, zi x] S J E (some (zi v)) S1 J E) : wCR l G mL_countedHive hhL_countedHive (d + 1) mc ms [.ref 0, zi x] S J E (some (zi v)) S1 J E := by
  refine wCR.of hl (by decide) rfl (Nat.le_of_ble_eq_true rfl) (ls := [some (.ref 0), some (zi x), none]) rfl (fun X C W hF hX => ?_)
  subst hX
  refine sw_aload_0 C dL_countedHive_0 ?_
  refine sw_iload_1 C dL_countedHive_1 ?_
  refine sn_cV1r C vX5_countedHive lL_87 rfl (by decide) rfl rfl dL_countedHive_2 (Nat.le_of_ble_eq_true rfl) h (Nat.le_refl _) (by omega) (by omega) ?_
  exact sn_iret C rfl hF dL_countedHive_5 (by omega) (by omega) rfl rfl rfl rfl
theorem eL_countedHive_1 : wSel RL "java/lang/IndexOutOfBoundsException" hhL_countedHive 2 6 := ⟨(tableOf hhL_countedHive).take 0, (tableOf hhL_countedHive).get ⟨0, by decide⟩, (tableOf hhL_countedHive).drop 1, rfl, (fun z hz => by cases hz), by decide, by decide, rfl, "java/lang/IndexOutOfBoundsException", qL_20, qC_IndexOutOfBoundsException⟩
set_option maxHeartbeats 1000000 in
theorem tL_countedHive_1 {l : Launch} (hl : l.stackTraces = false) {G : zG} {S S1 : zS} {J : Int64} {E : UInt64} {d mc ms : Nat} {x : Nat} (h : nCT l G mX5_countedHive d mc ms [.ref 0, zi x] S J E "java/lang/IndexOutOfBoundsException" S1 J E) : wCR l G mL_countedHive hhL_countedHive (d + 1) mc ms [.ref 0, zi x] S J E (some (zi 4294967295)) S1 J E := by
  refine wCR.of hl (by decide) rfl (Nat.le_of_ble_eq_true rfl) (ls := [some (.ref 0), some (zi x), none]) rfl (fun X C W hF hX => ?_)
  subst hX
  refine sw_aload_0 C dL_countedHive_0 ?_
  refine sw_iload_1 C dL_countedHive_1 ?_
  refine sw_callV_C (as := [zi x]) (st := []) (i := 2) (hpc := 6) (len := 1) C W vX5_countedHive kL_87 rfl (by decide) rfl rfl dL_countedHive_2 rfl (Nat.le_of_ble_eq_true rfl) h (Nat.le_refl _) (by omega) (by omega) eL_countedHive_1 (Nat.le_of_ble_eq_true rfl) (fun u hu => by cases hu; rfl) (Or.inr ⟨2, rfl, dL_countedHive_6, rfl⟩) (ls' := [some (.ref 0), some (zi x), none]) rfl ?_
  refine sn_iconst C 4294967295 (by decide) dL_countedHive_7 ?_
  exact sn_iret C rfl hF dL_countedHive_8 (by omega) (by omega) rfl rfl rfl rfl
theorem eL_countedHive_2 : wSel RL "java/util/NoSuchElementException" hhL_countedHive 2 9 := ⟨(tableOf hhL_countedHive).take 1, (tableOf hhL_countedHive).get ⟨1, by decide⟩, (tableOf hhL_countedHive).drop 2, rfl, (fun z hz => by rcases List.mem_singleton.mp hz with rfl; exact ⟨by decide, "java/lang/IndexOutOfBoundsException", qL_20, by decide +kernel⟩), by decide, by decide, rfl, "java/util/NoSuchElementException", qL_25, qC_NoSuchElementException⟩
set_option maxHeartbeats 1000000 in
theorem tL_countedHive_2 {l : Launch} (hl : l.stackTraces = false) {G : zG} {S S1 : zS} {J : Int64} {E : UInt64} {d mc ms : Nat} {x : Nat} (h : nCT l G mX5_countedHive d mc ms [.ref 0, zi x] S J E "java/util/NoSuchElementException" S1 J E) : wCR l G mL_countedHive hhL_countedHive (d + 1) mc ms [.ref 0, zi x] S J E (some (zi 4294967294)) S1 J E := by
  refine wCR.of hl (by decide) rfl (Nat.le_of_ble_eq_true rfl) (ls := [some (.ref 0), some (zi x), none]) rfl (fun X C W hF hX => ?_)
  subst hX
  refine sw_aload_0 C dL_countedHive_0 ?_
  refine sw_iload_1 C dL_countedHive_1 ?_
  refine sw_callV_C (as := [zi x]) (st := []) (i := 2) (hpc := 9) (len := 1) C W vX5_countedHive kL_87 rfl (by decide) rfl rfl dL_countedHive_2 rfl (Nat.le_of_ble_eq_true rfl) h (Nat.le_refl _) (by omega) (by omega) eL_countedHive_2 (Nat.le_of_ble_eq_true rfl) (fun u hu => by cases hu; rfl) (Or.inr ⟨2, rfl, dL_countedHive_9, rfl⟩) (ls' := [some (.ref 0), some (zi x), none]) rfl ?_
  refine sn_bipush C 4294967294 (by decide) dL_countedHive_10 ?_
  exact sn_iret C rfl hF dL_countedHive_12 (by omega) (by omega) rfl rfl rfl rfl
abbrev hhL_nextSpreaders : zHh := [(0, 5, 6, 20)]
theorem wL_nextSpreaders : Cond.codeWith mL_nextSpreaders.1 mL_nextSpreaders.2.1 mL_nextSpreaders.2.2.1 mL_nextSpreaders.2.2.2 hhL_nextSpreaders ∈ lw_tbl := (List.mem_of_getElem? (i := 1475) (by decide +kernel))
theorem sL_nextSpreaders : Cond.static mL_nextSpreaders.1 ∈ lw_tbl := (List.mem_of_getElem? (i := 1474) (by decide +kernel))
set_option maxHeartbeats 1000000 in
theorem rL_nextSpreaders {l : Launch} (hl : l.stackTraces = false) {G : zG} {S S1 : zS} {J : Int64} {E : UInt64} {d mc ms : Nat} {x : Nat} {v : Nat} (h : nCR l G mX5_nextSpreaders d mc ms [.ref 0, zi x] S J E (some (zi v)) S1 J E) : wCR l G mL_nextSpreaders hhL_nextSpreaders (d + 1) mc ms [.ref 0, zi x] S J E (some (zi v)) S1 J E := by
  refine wCR.of hl (by decide) rfl (Nat.le_of_ble_eq_true rfl) (ls := [some (.ref 0), some (zi x), none]) rfl (fun X C W hF hX => ?_)
  subst hX
  refine sw_aload_0 C dL_nextSpreaders_0 ?_
  refine sw_iload_1 C dL_nextSpreaders_1 ?_
  refine sn_cV1r C vX5_nextSpreaders lL_99 rfl (by decide) rfl rfl dL_nextSpreaders_2 (Nat.le_of_ble_eq_true rfl) h (Nat.le_refl _) (by omega) (by omega) ?_
  exact sn_iret C rfl hF dL_nextSpreaders_5 (by omega) (by omega) rfl rfl rfl rfl
theorem eL_nextSpreaders_1 : wSel RL "java/lang/IndexOutOfBoundsException" hhL_nextSpreaders 2 6 := ⟨(tableOf hhL_nextSpreaders).take 0, (tableOf hhL_nextSpreaders).get ⟨0, by decide⟩, (tableOf hhL_nextSpreaders).drop 1, rfl, (fun z hz => by cases hz), by decide, by decide, rfl, "java/lang/IndexOutOfBoundsException", qL_20, qC_IndexOutOfBoundsException⟩
set_option maxHeartbeats 1000000 in
theorem tL_nextSpreaders_1 {l : Launch} (hl : l.stackTraces = false) {G : zG} {S S1 : zS} {J : Int64} {E : UInt64} {d mc ms : Nat} {x : Nat} (h : nCT l G mX5_nextSpreaders d mc ms [.ref 0, zi x] S J E "java/lang/IndexOutOfBoundsException" S1 J E) : wCR l G mL_nextSpreaders hhL_nextSpreaders (d + 1) mc ms [.ref 0, zi x] S J E (some (zi 4294967295)) S1 J E := by
  refine wCR.of hl (by decide) rfl (Nat.le_of_ble_eq_true rfl) (ls := [some (.ref 0), some (zi x), none]) rfl (fun X C W hF hX => ?_)
  subst hX
  refine sw_aload_0 C dL_nextSpreaders_0 ?_
  refine sw_iload_1 C dL_nextSpreaders_1 ?_
  refine sw_callV_C (as := [zi x]) (st := []) (i := 2) (hpc := 6) (len := 1) C W vX5_nextSpreaders kL_99 rfl (by decide) rfl rfl dL_nextSpreaders_2 rfl (Nat.le_of_ble_eq_true rfl) h (Nat.le_refl _) (by omega) (by omega) eL_nextSpreaders_1 (Nat.le_of_ble_eq_true rfl) (fun u hu => by cases hu; rfl) (Or.inr ⟨2, rfl, dL_nextSpreaders_6, rfl⟩) (ls' := [some (.ref 0), some (zi x), none]) rfl ?_
  refine sn_iconst C 4294967295 (by decide) dL_nextSpreaders_7 ?_
  exact sn_iret C rfl hF dL_nextSpreaders_8 (by omega) (by omega) rfl rfl rfl rfl
abbrev hhL_distance : zHh := [(0, 6, 7, 20), (0, 6, 10, 25)]
theorem wL_distance : Cond.codeWith mL_distance.1 mL_distance.2.1 mL_distance.2.2.1 mL_distance.2.2.2 hhL_distance ∈ lw_tbl := (List.mem_of_getElem? (i := 1489) (by decide +kernel))
theorem sL_distance : Cond.static mL_distance.1 ∈ lw_tbl := (List.mem_of_getElem? (i := 1488) (by decide +kernel))
set_option maxHeartbeats 1000000 in
theorem rL_distance {l : Launch} (hl : l.stackTraces = false) {G : zG} {S S1 : zS} {J : Int64} {E : UInt64} {d mc ms : Nat} {x y : Nat} {v : Nat} (h : nCR l G mX5_distance d mc ms [.ref 0, zi x, zi y] S J E (some (zi v)) S1 J E) : wCR l G mL_distance hhL_distance (d + 1) mc ms [.ref 0, zi x, zi y] S J E (some (zi v)) S1 J E := by
  refine wCR.of hl (by decide) rfl (Nat.le_of_ble_eq_true rfl) (ls := [some (.ref 0), some (zi x), some (zi y), none]) rfl (fun X C W hF hX => ?_)
  subst hX
  refine sw_aload_0 C dL_distance_0 ?_
  refine sw_iload_1 C dL_distance_1 ?_
  refine sw_iload_2 C dL_distance_2 ?_
  refine sn_cV2r C vX5_distance lL_93 rfl (by decide) rfl rfl dL_distance_3 (Nat.le_of_ble_eq_true rfl) h (Nat.le_refl _) (by omega) (by omega) ?_
  exact sn_iret C rfl hF dL_distance_6 (by omega) (by omega) rfl rfl rfl rfl
theorem eL_distance_1 : wSel RL "java/lang/IndexOutOfBoundsException" hhL_distance 3 7 := ⟨(tableOf hhL_distance).take 0, (tableOf hhL_distance).get ⟨0, by decide⟩, (tableOf hhL_distance).drop 1, rfl, (fun z hz => by cases hz), by decide, by decide, rfl, "java/lang/IndexOutOfBoundsException", qL_20, qC_IndexOutOfBoundsException⟩
set_option maxHeartbeats 1000000 in
theorem tL_distance_1 {l : Launch} (hl : l.stackTraces = false) {G : zG} {S S1 : zS} {J : Int64} {E : UInt64} {d mc ms : Nat} {x y : Nat} (h : nCT l G mX5_distance d mc ms [.ref 0, zi x, zi y] S J E "java/lang/IndexOutOfBoundsException" S1 J E) : wCR l G mL_distance hhL_distance (d + 1) mc ms [.ref 0, zi x, zi y] S J E (some (zi 4294967295)) S1 J E := by
  refine wCR.of hl (by decide) rfl (Nat.le_of_ble_eq_true rfl) (ls := [some (.ref 0), some (zi x), some (zi y), none]) rfl (fun X C W hF hX => ?_)
  subst hX
  refine sw_aload_0 C dL_distance_0 ?_
  refine sw_iload_1 C dL_distance_1 ?_
  refine sw_iload_2 C dL_distance_2 ?_
  refine sw_callV_C (as := [zi x, zi y]) (st := []) (i := 3) (hpc := 7) (len := 1) C W vX5_distance kL_93 rfl (by decide) rfl rfl dL_distance_3 rfl (Nat.le_of_ble_eq_true rfl) h (Nat.le_refl _) (by omega) (by omega) eL_distance_1 (Nat.le_of_ble_eq_true rfl) (fun u hu => by cases hu; rfl) (Or.inr ⟨3, rfl, dL_distance_7, rfl⟩) (ls' := [some (.ref 0), some (zi x), some (zi y), none]) rfl ?_
  refine sn_iconst C 4294967295 (by decide) dL_distance_8 ?_
  exact sn_iret C rfl hF dL_distance_9 (by omega) (by omega) rfl rfl rfl rfl
theorem eL_distance_2 : wSel RL "java/util/NoSuchElementException" hhL_distance 3 10 := ⟨(tableOf hhL_distance).take 1, (tableOf hhL_distance).get ⟨1, by decide⟩, (tableOf hhL_distance).drop 2, rfl, (fun z hz => by rcases List.mem_singleton.mp hz with rfl; exact ⟨by decide, "java/lang/IndexOutOfBoundsException", qL_20, by decide +kernel⟩), by decide, by decide, rfl, "java/util/NoSuchElementException", qL_25, qC_NoSuchElementException⟩
set_option maxHeartbeats 1000000 in
theorem tL_distance_2 {l : Launch} (hl : l.stackTraces = false) {G : zG} {S S1 : zS} {J : Int64} {E : UInt64} {d mc ms : Nat} {x y : Nat} (h : nCT l G mX5_distance d mc ms [.ref 0, zi x, zi y] S J E "java/util/NoSuchElementException" S1 J E) : wCR l G mL_distance hhL_distance (d + 1) mc ms [.ref 0, zi x, zi y] S J E (some (zi 4294967294)) S1 J E := by
  refine wCR.of hl (by decide) rfl (Nat.le_of_ble_eq_true rfl) (ls := [some (.ref 0), some (zi x), some (zi y), none]) rfl (fun X C W hF hX => ?_)
  subst hX
  refine sw_aload_0 C dL_distance_0 ?_
  refine sw_iload_1 C dL_distance_1 ?_
  refine sw_iload_2 C dL_distance_2 ?_
  refine sw_callV_C (as := [zi x, zi y]) (st := []) (i := 3) (hpc := 10) (len := 1) C W vX5_distance kL_93 rfl (by decide) rfl rfl dL_distance_3 rfl (Nat.le_of_ble_eq_true rfl) h (Nat.le_refl _) (by omega) (by omega) eL_distance_2 (Nat.le_of_ble_eq_true rfl) (fun u hu => by cases hu; rfl) (Or.inr ⟨3, rfl, dL_distance_10, rfl⟩) (ls' := [some (.ref 0), some (zi x), some (zi y), none]) rfl ?_
  refine sn_bipush C 4294967294 (by decide) dL_distance_11 ?_
  exact sn_iret C rfl hF dL_distance_13 (by omega) (by omega) rfl rfl rfl rfl
abbrev hhL_distanceByRelaxation : zHh := [(0, 6, 7, 20), (0, 6, 10, 25)]
theorem wL_distanceByRelaxation : Cond.codeWith mL_distanceByRelaxation.1 mL_distanceByRelaxation.2.1 mL_distanceByRelaxation.2.2.1 mL_distanceByRelaxation.2.2.2 hhL_distanceByRelaxation ∈ lw_tbl := (List.mem_of_getElem? (i := 1497) (by decide +kernel))
theorem sL_distanceByRelaxation : Cond.static mL_distanceByRelaxation.1 ∈ lw_tbl := (List.mem_of_getElem? (i := 1496) (by decide +kernel))
set_option maxHeartbeats 1000000 in
theorem rL_distanceByRelaxation {l : Launch} (hl : l.stackTraces = false) {G : zG} {S S1 : zS} {J : Int64} {E : UInt64} {d mc ms : Nat} {x y : Nat} {v : Nat} (h : nCR l G mX5_distanceByRelaxation d mc ms [.ref 0, zi x, zi y] S J E (some (zi v)) S1 J E) : wCR l G mL_distanceByRelaxation hhL_distanceByRelaxation (d + 1) mc ms [.ref 0, zi x, zi y] S J E (some (zi v)) S1 J E := by
  refine wCR.of hl (by decide) rfl (Nat.le_of_ble_eq_true rfl) (ls := [some (.ref 0), some (zi x), some (zi y), none]) rfl (fun X C W hF hX => ?_)
  subst hX
  refine sw_aload_0 C dL_distanceByRelaxation_0 ?_
  refine sw_iload_1 C dL_distanceByRelaxation_1 ?_
  refine sw_iload_2 C dL_distanceByRelaxation_2 ?_
  refine sn_cV2r C vX5_distanceByRelaxation lL_96 rfl (by decide) rfl rfl dL_distanceByRelaxation_3 (Nat.le_of_ble_eq_true rfl) h (Nat.le_refl _) (by omega) (by omega) ?_
  exact sn_iret C rfl hF dL_distanceByRelaxation_6 (by omega) (by omega) rfl rfl rfl rfl
theorem eL_distanceByRelaxation_1 : wSel RL "java/lang/IndexOutOfBoundsException" hhL_distanceByRelaxation 3 7 := ⟨(tableOf hhL_distanceByRelaxation).take 0, (tableOf hhL_distanceByRelaxation).get ⟨0, by decide⟩, (tableOf hhL_distanceByRelaxation).drop 1, rfl, (fun z hz => by cases hz), by decide, by decide, rfl, "java/lang/IndexOutOfBoundsException", qL_20, qC_IndexOutOfBoundsException⟩
set_option maxHeartbeats 1000000 in
theorem tL_distanceByRelaxation_1 {l : Launch} (hl : l.stackTraces = false) {G : zG} {S S1 : zS} {J : Int64} {E : UInt64} {d mc ms : Nat} {x y : Nat} (h : nCT l G mX5_distanceByRelaxation d mc ms [.ref 0, zi x, zi y] S J E "java/lang/IndexOutOfBoundsException" S1 J E) : wCR l G mL_distanceByRelaxation hhL_distanceByRelaxation (d + 1) mc ms [.ref 0, zi x, zi y] S J E (some (zi 4294967295)) S1 J E := by
  refine wCR.of hl (by decide) rfl (Nat.le_of_ble_eq_true rfl) (ls := [some (.ref 0), some (zi x), some (zi y), none]) rfl (fun X C W hF hX => ?_)
  subst hX
  refine sw_aload_0 C dL_distanceByRelaxation_0 ?_
  refine sw_iload_1 C dL_distanceByRelaxation_1 ?_
  refine sw_iload_2 C dL_distanceByRelaxation_2 ?_
  refine sw_callV_C (as := [zi x, zi y]) (st := []) (i := 3) (hpc := 7) (len := 1) C W vX5_distanceByRelaxation kL_96 rfl (by decide) rfl rfl dL_distanceByRelaxation_3 rfl (Nat.le_of_ble_eq_true rfl) h (Nat.le_refl _) (by omega) (by omega) eL_distanceByRelaxation_1 (Nat.le_of_ble_eq_true rfl) (fun u hu => by cases hu; rfl) (Or.inr ⟨3, rfl, dL_distanceByRelaxation_7, rfl⟩) (ls' := [some (.ref 0), some (zi x), some (zi y), none]) rfl ?_
  refine sn_iconst C 4294967295 (by decide) dL_distanceByRelaxation_8 ?_
  exact sn_iret C rfl hF dL_distanceByRelaxation_9 (by omega) (by omega) rfl rfl rfl rfl
theorem eL_distanceByRelaxation_2 : wSel RL "java/util/NoSuchElementException" hhL_distanceByRelaxation 3 10 := ⟨(tableOf hhL_distanceByRelaxation).take 1, (tableOf hhL_distanceByRelaxation).get ⟨1, by decide⟩, (tableOf hhL_distanceByRelaxation).drop 2, rfl, (fun z hz => by rcases List.mem_singleton.mp hz with rfl; exact ⟨by decide, "java/lang/IndexOutOfBoundsException", qL_20, by decide +kernel⟩), by decide, by decide, rfl, "java/util/NoSuchElementException", qL_25, qC_NoSuchElementException⟩
set_option maxHeartbeats 1000000 in
theorem tL_distanceByRelaxation_2 {l : Launch} (hl : l.stackTraces = false) {G : zG} {S S1 : zS} {J : Int64} {E : UInt64} {d mc ms : Nat} {x y : Nat} (h : nCT l G mX5_distanceByRelaxation d mc ms [.ref 0, zi x, zi y] S J E "java/util/NoSuchElementException" S1 J E) : wCR l G mL_distanceByRelaxation hhL_distanceByRelaxation (d + 1) mc ms [.ref 0, zi x, zi y] S J E (some (zi 4294967294)) S1 J E := by
  refine wCR.of hl (by decide) rfl (Nat.le_of_ble_eq_true rfl) (ls := [some (.ref 0), some (zi x), some (zi y), none]) rfl (fun X C W hF hX => ?_)
  subst hX
  refine sw_aload_0 C dL_distanceByRelaxation_0 ?_
  refine sw_iload_1 C dL_distanceByRelaxation_1 ?_
  refine sw_iload_2 C dL_distanceByRelaxation_2 ?_
  refine sw_callV_C (as := [zi x, zi y]) (st := []) (i := 3) (hpc := 10) (len := 1) C W vX5_distanceByRelaxation kL_96 rfl (by decide) rfl rfl dL_distanceByRelaxation_3 rfl (Nat.le_of_ble_eq_true rfl) h (Nat.le_refl _) (by omega) (by omega) eL_distanceByRelaxation_2 (Nat.le_of_ble_eq_true rfl) (fun u hu => by cases hu; rfl) (Or.inr ⟨3, rfl, dL_distanceByRelaxation_10, rfl⟩) (ls' := [some (.ref 0), some (zi x), some (zi y), none]) rfl ?_
  refine sn_bipush C 4294967294 (by decide) dL_distanceByRelaxation_11 ?_
  exact sn_iret C rfl hF dL_distanceByRelaxation_13 (by omega) (by omega) rfl rfl rfl rfl
abbrev hhL_spreadersAfter : zHh := [(0, 6, 7, 20), (0, 6, 10, 13)]
theorem wL_spreadersAfter : Cond.codeWith mL_spreadersAfter.1 mL_spreadersAfter.2.1 mL_spreadersAfter.2.2.1 mL_spreadersAfter.2.2.2 hhL_spreadersAfter ∈ lw_tbl := (List.mem_of_getElem? (i := 1512) (by decide +kernel))
theorem sL_spreadersAfter : Cond.static mL_spreadersAfter.1 ∈ lw_tbl := (List.mem_of_getElem? (i := 1511) (by decide +kernel))
set_option maxHeartbeats 1000000 in
theorem rL_spreadersAfter {l : Launch} (hl : l.stackTraces = false) {G : zG} {S S1 : zS} {J : Int64} {E : UInt64} {d mc ms : Nat} {x y : Nat} {v : Nat} (h : nCR l G mX5_spreadersAfter d mc ms [.ref 0, zi x, zi y] S J E (some (zi v)) S1 J E) : wCR l G mL_spreadersAfter hhL_spreadersAfter (d + 1) mc ms [.ref 0, zi x, zi y] S J E (some (zi v)) S1 J E := by
  refine wCR.of hl (by decide) rfl (Nat.le_of_ble_eq_true rfl) (ls := [some (.ref 0), some (zi x), some (zi y), none]) rfl (fun X C W hF hX => ?_)
  subst hX
  refine sw_aload_0 C dL_spreadersAfter_0 ?_
  refine sw_iload_1 C dL_spreadersAfter_1 ?_
  refine sw_iload_2 C dL_spreadersAfter_2 ?_
  refine sn_cV2r C vX5_spreadersAfter lL_105 rfl (by decide) rfl rfl dL_spreadersAfter_3 (Nat.le_of_ble_eq_true rfl) h (Nat.le_refl _) (by omega) (by omega) ?_
  exact sn_iret C rfl hF dL_spreadersAfter_6 (by omega) (by omega) rfl rfl rfl rfl
theorem eL_spreadersAfter_1 : wSel RL "java/lang/IndexOutOfBoundsException" hhL_spreadersAfter 3 7 := ⟨(tableOf hhL_spreadersAfter).take 0, (tableOf hhL_spreadersAfter).get ⟨0, by decide⟩, (tableOf hhL_spreadersAfter).drop 1, rfl, (fun z hz => by cases hz), by decide, by decide, rfl, "java/lang/IndexOutOfBoundsException", qL_20, qC_IndexOutOfBoundsException⟩
set_option maxHeartbeats 1000000 in
theorem tL_spreadersAfter_1 {l : Launch} (hl : l.stackTraces = false) {G : zG} {S S1 : zS} {J : Int64} {E : UInt64} {d mc ms : Nat} {x y : Nat} (h : nCT l G mX5_spreadersAfter d mc ms [.ref 0, zi x, zi y] S J E "java/lang/IndexOutOfBoundsException" S1 J E) : wCR l G mL_spreadersAfter hhL_spreadersAfter (d + 1) mc ms [.ref 0, zi x, zi y] S J E (some (zi 4294967295)) S1 J E := by
  refine wCR.of hl (by decide) rfl (Nat.le_of_ble_eq_true rfl) (ls := [some (.ref 0), some (zi x), some (zi y), none]) rfl (fun X C W hF hX => ?_)
  subst hX
  refine sw_aload_0 C dL_spreadersAfter_0 ?_
  refine sw_iload_1 C dL_spreadersAfter_1 ?_
  refine sw_iload_2 C dL_spreadersAfter_2 ?_
  refine sw_callV_C (as := [zi x, zi y]) (st := []) (i := 3) (hpc := 7) (len := 1) C W vX5_spreadersAfter kL_105 rfl (by decide) rfl rfl dL_spreadersAfter_3 rfl (Nat.le_of_ble_eq_true rfl) h (Nat.le_refl _) (by omega) (by omega) eL_spreadersAfter_1 (Nat.le_of_ble_eq_true rfl) (fun u hu => by cases hu; rfl) (Or.inr ⟨3, rfl, dL_spreadersAfter_7, rfl⟩) (ls' := [some (.ref 0), some (zi x), some (zi y), none]) rfl ?_
  refine sn_iconst C 4294967295 (by decide) dL_spreadersAfter_8 ?_
  exact sn_iret C rfl hF dL_spreadersAfter_9 (by omega) (by omega) rfl rfl rfl rfl
theorem eL_spreadersAfter_2 : wSel RL "java/lang/IllegalArgumentException" hhL_spreadersAfter 3 10 := ⟨(tableOf hhL_spreadersAfter).take 1, (tableOf hhL_spreadersAfter).get ⟨1, by decide⟩, (tableOf hhL_spreadersAfter).drop 2, rfl, (fun z hz => by rcases List.mem_singleton.mp hz with rfl; exact ⟨by decide, "java/lang/IndexOutOfBoundsException", qL_20, by decide +kernel⟩), by decide, by decide, rfl, "java/lang/IllegalArgumentException", qL_13, qC_IllegalArgumentException⟩
set_option maxHeartbeats 1000000 in
theorem tL_spreadersAfter_2 {l : Launch} (hl : l.stackTraces = false) {G : zG} {S S1 : zS} {J : Int64} {E : UInt64} {d mc ms : Nat} {x y : Nat} (h : nCT l G mX5_spreadersAfter d mc ms [.ref 0, zi x, zi y] S J E "java/lang/IllegalArgumentException" S1 J E) : wCR l G mL_spreadersAfter hhL_spreadersAfter (d + 1) mc ms [.ref 0, zi x, zi y] S J E (some (zi 4294967294)) S1 J E := by
  refine wCR.of hl (by decide) rfl (Nat.le_of_ble_eq_true rfl) (ls := [some (.ref 0), some (zi x), some (zi y), none]) rfl (fun X C W hF hX => ?_)
  subst hX
  refine sw_aload_0 C dL_spreadersAfter_0 ?_
  refine sw_iload_1 C dL_spreadersAfter_1 ?_
  refine sw_iload_2 C dL_spreadersAfter_2 ?_
  refine sw_callV_C (as := [zi x, zi y]) (st := []) (i := 3) (hpc := 10) (len := 1) C W vX5_spreadersAfter kL_105 rfl (by decide) rfl rfl dL_spreadersAfter_3 rfl (Nat.le_of_ble_eq_true rfl) h (Nat.le_refl _) (by omega) (by omega) eL_spreadersAfter_2 (Nat.le_of_ble_eq_true rfl) (fun u hu => by cases hu; rfl) (Or.inr ⟨3, rfl, dL_spreadersAfter_10, rfl⟩) (ls' := [some (.ref 0), some (zi x), some (zi y), none]) rfl ?_
  refine sn_bipush C 4294967294 (by decide) dL_spreadersAfter_11 ?_
  exact sn_iret C rfl hF dL_spreadersAfter_13 (by omega) (by omega) rfl rfl rfl rfl
abbrev hhL_roundsUntilHeard : zHh := [(0, 6, 7, 20), (0, 6, 10, 15), (0, 6, 14, 25)]
theorem wL_roundsUntilHeard : Cond.codeWith mL_roundsUntilHeard.1 mL_roundsUntilHeard.2.1 mL_roundsUntilHeard.2.2.1 mL_roundsUntilHeard.2.2.2 hhL_roundsUntilHeard ∈ lw_tbl := (List.mem_of_getElem? (i := 1522) (by decide +kernel))
theorem sL_roundsUntilHeard : Cond.static mL_roundsUntilHeard.1 ∈ lw_tbl := (List.mem_of_getElem? (i := 1521) (by decide +kernel))
set_option maxHeartbeats 1000000 in
theorem rL_roundsUntilHeard {l : Launch} (hl : l.stackTraces = false) {G : zG} {S S1 : zS} {J : Int64} {E : UInt64} {d mc ms : Nat} {x y : Nat} {v : Nat} (h : nCR l G mX5_roundsUntilHeard d mc ms [.ref 0, zi x, zi y] S J E (some (zi v)) S1 J E) : wCR l G mL_roundsUntilHeard hhL_roundsUntilHeard (d + 1) mc ms [.ref 0, zi x, zi y] S J E (some (zi v)) S1 J E := by
  refine wCR.of hl (by decide) rfl (Nat.le_of_ble_eq_true rfl) (ls := [some (.ref 0), some (zi x), some (zi y), none]) rfl (fun X C W hF hX => ?_)
  subst hX
  refine sw_aload_0 C dL_roundsUntilHeard_0 ?_
  refine sw_iload_1 C dL_roundsUntilHeard_1 ?_
  refine sw_iload_2 C dL_roundsUntilHeard_2 ?_
  refine sn_cV2r C vX5_roundsUntilHeard lL_102 rfl (by decide) rfl rfl dL_roundsUntilHeard_3 (Nat.le_of_ble_eq_true rfl) h (Nat.le_refl _) (by omega) (by omega) ?_
  exact sn_iret C rfl hF dL_roundsUntilHeard_6 (by omega) (by omega) rfl rfl rfl rfl
theorem eL_roundsUntilHeard_1 : wSel RL "java/lang/IndexOutOfBoundsException" hhL_roundsUntilHeard 3 7 := ⟨(tableOf hhL_roundsUntilHeard).take 0, (tableOf hhL_roundsUntilHeard).get ⟨0, by decide⟩, (tableOf hhL_roundsUntilHeard).drop 1, rfl, (fun z hz => by cases hz), by decide, by decide, rfl, "java/lang/IndexOutOfBoundsException", qL_20, qC_IndexOutOfBoundsException⟩
set_option maxHeartbeats 1000000 in
theorem tL_roundsUntilHeard_1 {l : Launch} (hl : l.stackTraces = false) {G : zG} {S S1 : zS} {J : Int64} {E : UInt64} {d mc ms : Nat} {x y : Nat} (h : nCT l G mX5_roundsUntilHeard d mc ms [.ref 0, zi x, zi y] S J E "java/lang/IndexOutOfBoundsException" S1 J E) : wCR l G mL_roundsUntilHeard hhL_roundsUntilHeard (d + 1) mc ms [.ref 0, zi x, zi y] S J E (some (zi 4294967295)) S1 J E := by
  refine wCR.of hl (by decide) rfl (Nat.le_of_ble_eq_true rfl) (ls := [some (.ref 0), some (zi x), some (zi y), none]) rfl (fun X C W hF hX => ?_)
  subst hX
  refine sw_aload_0 C dL_roundsUntilHeard_0 ?_
  refine sw_iload_1 C dL_roundsUntilHeard_1 ?_
  refine sw_iload_2 C dL_roundsUntilHeard_2 ?_
  refine sw_callV_C (as := [zi x, zi y]) (st := []) (i := 3) (hpc := 7) (len := 1) C W vX5_roundsUntilHeard kL_102 rfl (by decide) rfl rfl dL_roundsUntilHeard_3 rfl (Nat.le_of_ble_eq_true rfl) h (Nat.le_refl _) (by omega) (by omega) eL_roundsUntilHeard_1 (Nat.le_of_ble_eq_true rfl) (fun u hu => by cases hu; rfl) (Or.inr ⟨3, rfl, dL_roundsUntilHeard_7, rfl⟩) (ls' := [some (.ref 0), some (zi x), some (zi y), none]) rfl ?_
  refine sn_iconst C 4294967295 (by decide) dL_roundsUntilHeard_8 ?_
  exact sn_iret C rfl hF dL_roundsUntilHeard_9 (by omega) (by omega) rfl rfl rfl rfl
theorem eL_roundsUntilHeard_2 : wSel RL "java/lang/IllegalStateException" hhL_roundsUntilHeard 3 10 := ⟨(tableOf hhL_roundsUntilHeard).take 1, (tableOf hhL_roundsUntilHeard).get ⟨1, by decide⟩, (tableOf hhL_roundsUntilHeard).drop 2, rfl, (fun z hz => by rcases List.mem_singleton.mp hz with rfl; exact ⟨by decide, "java/lang/IndexOutOfBoundsException", qL_20, by decide +kernel⟩), by decide, by decide, rfl, "java/lang/IllegalStateException", qL_15, qC_IllegalStateException⟩
set_option maxHeartbeats 1000000 in
theorem tL_roundsUntilHeard_2 {l : Launch} (hl : l.stackTraces = false) {G : zG} {S S1 : zS} {J : Int64} {E : UInt64} {d mc ms : Nat} {x y : Nat} (h : nCT l G mX5_roundsUntilHeard d mc ms [.ref 0, zi x, zi y] S J E "java/lang/IllegalStateException" S1 J E) : wCR l G mL_roundsUntilHeard hhL_roundsUntilHeard (d + 1) mc ms [.ref 0, zi x, zi y] S J E (some (zi 4294967294)) S1 J E := by
  refine wCR.of hl (by decide) rfl (Nat.le_of_ble_eq_true rfl) (ls := [some (.ref 0), some (zi x), some (zi y), none]) rfl (fun X C W hF hX => ?_)
  subst hX
  refine sw_aload_0 C dL_roundsUntilHeard_0 ?_
  refine sw_iload_1 C dL_roundsUntilHeard_1 ?_
  refine sw_iload_2 C dL_roundsUntilHeard_2 ?_
  refine sw_callV_C (as := [zi x, zi y]) (st := []) (i := 3) (hpc := 10) (len := 1) C W vX5_roundsUntilHeard kL_102 rfl (by decide) rfl rfl dL_roundsUntilHeard_3 rfl (Nat.le_of_ble_eq_true rfl) h (Nat.le_refl _) (by omega) (by omega) eL_roundsUntilHeard_2 (Nat.le_of_ble_eq_true rfl) (fun u hu => by cases hu; rfl) (Or.inr ⟨3, rfl, dL_roundsUntilHeard_10, rfl⟩) (ls' := [some (.ref 0), some (zi x), some (zi y), none]) rfl ?_
  refine sn_bipush C 4294967294 (by decide) dL_roundsUntilHeard_11 ?_
  exact sn_iret C rfl hF dL_roundsUntilHeard_13 (by omega) (by omega) rfl rfl rfl rfl
theorem eL_roundsUntilHeard_3 : wSel RL "java/util/NoSuchElementException" hhL_roundsUntilHeard 3 14 := ⟨(tableOf hhL_roundsUntilHeard).take 2, (tableOf hhL_roundsUntilHeard).get ⟨2, by decide⟩, (tableOf hhL_roundsUntilHeard).drop 3, rfl, (fun z hz => by
    rcases List.mem_cons.mp hz with rfl | hz
    · exact ⟨by decide, "java/lang/IndexOutOfBoundsException", qL_20, by decide +kernel⟩
    · rcases List.mem_singleton.mp hz with rfl; exact ⟨by decide, "java/lang/IllegalStateException", qL_15, by decide +kernel⟩), by decide, by decide, rfl, "java/util/NoSuchElementException", qL_25, qC_NoSuchElementException⟩
set_option maxHeartbeats 1000000 in
theorem tL_roundsUntilHeard_3 {l : Launch} (hl : l.stackTraces = false) {G : zG} {S S1 : zS} {J : Int64} {E : UInt64} {d mc ms : Nat} {x y : Nat} (h : nCT l G mX5_roundsUntilHeard d mc ms [.ref 0, zi x, zi y] S J E "java/util/NoSuchElementException" S1 J E) : wCR l G mL_roundsUntilHeard hhL_roundsUntilHeard (d + 1) mc ms [.ref 0, zi x, zi y] S J E (some (zi 4294967293)) S1 J E := by
  refine wCR.of hl (by decide) rfl (Nat.le_of_ble_eq_true rfl) (ls := [some (.ref 0), some (zi x), some (zi y), none]) rfl (fun X C W hF hX => ?_)
  subst hX
  refine sw_aload_0 C dL_roundsUntilHeard_0 ?_
  refine sw_iload_1 C dL_roundsUntilHeard_1 ?_
  refine sw_iload_2 C dL_roundsUntilHeard_2 ?_
  refine sw_callV_C (as := [zi x, zi y]) (st := []) (i := 3) (hpc := 14) (len := 1) C W vX5_roundsUntilHeard kL_102 rfl (by decide) rfl rfl dL_roundsUntilHeard_3 rfl (Nat.le_of_ble_eq_true rfl) h (Nat.le_refl _) (by omega) (by omega) eL_roundsUntilHeard_3 (Nat.le_of_ble_eq_true rfl) (fun u hu => by cases hu; rfl) (Or.inr ⟨3, rfl, dL_roundsUntilHeard_14, rfl⟩) (ls' := [some (.ref 0), some (zi x), some (zi y), none]) rfl ?_
  refine sn_bipush C 4294967293 (by decide) dL_roundsUntilHeard_15 ?_
  exact sn_iret C rfl hF dL_roundsUntilHeard_17 (by omega) (by omega) rfl rfl rfl rfl
