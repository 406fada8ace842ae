/-! the law's cases, 4 -/
set_option maxRecDepth 100000 in
set_option maxHeartbeats 4000000 in
theorem cs_39 {G : zG} {X : zX} {L : Nat} {xs : Nat → Int32} {a b i : Nat} {S : zS} {J : Int64} {E : UInt64} (W : zLw G X L xs) (H : zInv S S) (hi : i + 3 ≤ L) (hL : L ≤ 1536) (ha : a + 25 ≤ 603072) (hb : b + 850 ≤ 7211114) (K : zGo G X a b i) : SN G X a b 2335 [some (.ref 400), some (.ref 0), some (.ref 12), some (.ref 23), some (.ref 24), some (zi i), none, none, none] [] S J E := by
  obtain ⟨C, Z, NC, hl, hG⟩ := W
  obtain ⟨k, d1, d2, mc, ms, S1, S2, E1, w, ⟨h1, h2, h3, h4⟩, c1, c2, hk, hk5, hJ, H2⟩ := op_meanDoubt hl (G := G) (J := J) (E := E) H 
  refine sw_aload_1 C dL_law_2335 ?_
  refine sw_aload_4 C dL_law_2336 ?_
  refine sw_callW (as := [.ref 0, .ref 24]) (st := []) (n := 2) C (fun s e => e ▸ NC) wL_meanDoubt rfl iL_law ⟨by decide, by decide⟩ (by decide) (by decide) sL_meanDoubt kL_290 dL_law_2338 rfl (Nat.le_of_ble_eq_true rfl) c1 (by omega) (by omega) (by omega) ?_
  refine sw_istore_6 C rfl dL_law_2341 ?_
  refine sw_aload_2 C dL_law_2343 ?_
  refine sn_cV0r C vX6_meanDoubt lL_293 rfl (by decide) rfl rfl dL_law_2344 (Nat.le_of_ble_eq_true rfl) c2 (by omega) (by omega) (by omega) ?_
  refine sw_dstore C (i := 7) (Nat.le_of_ble_eq_true rfl) (fun u hu => by cases hu; rfl) (ls' := [some (.ref 400), some (.ref 0), some (.ref 12), some (.ref 23), some (.ref 24), some (zi i), some (zi k), some (.double w), none]) rfl dL_law_2347 ?_
  refine sw_aload_2 C dL_law_2349 ?_
  refine sn_cV0r C vX6_thrown lL_164 rfl (by decide) rfl rfl dL_law_2350 (Nat.le_of_ble_eq_true rfl) (c_X6_thrown hl) (by omega) (by omega) (by omega) ?_
  refine sw_iload_6 C dL_law_2353 ?_
  refine sn_icmp_eq C 2360 (by omega) (by omega) dL_law_2355 (by decide) (fun c => ?_) (fun c => absurd hk c)
  refine sw_iload_6 C dL_law_2360 ?_
  refine sn_if_ne C 2397 (by omega) dL_law_2362 (by decide) (fun c1 => ?_) (fun c0 => ?_)
  · refine sw_goto C 2938 dL_law_2397 (by decide) ?_
    exact sw_fg (K _ _ _ _ _ (by omega) (by omega) H2)
  · have eJ := hJ c0
    obtain ⟨eE, eq⟩ := eJ
    refine sw_aload_4 C dL_law_2365 ?_
    refine sn_iconst C 0 (by decide) dL_law_2367 ?_
    refine sw_dald C dL_law_2368 ?_
    refine sw_dload_7 C dL_law_2369 ?_
    refine sw_dcmp C dL_law_2371 ?_
    refine sw_if_eq C 2397 dL_law_2372 (by decide) (fun _ => ?_) (fun c => absurd (by rw [eE, eq]; rfl) c)
    refine sw_goto C 2938 dL_law_2397 (by decide) ?_
    exact sw_fg (K _ _ _ _ _ (by omega) (by omega) H2)
set_option maxRecDepth 100000 in
set_option maxHeartbeats 4000000 in
theorem cs_40 {G : zG} {X : zX} {L : Nat} {xs : Nat → Int32} {a b i : Nat} {S : zS} {J : Int64} {E : UInt64} (W : zLw G X L xs) (H : zInv S S) (hi : i + 3 ≤ L) (hL : L ≤ 1536) (ha : a + 25 ≤ 603072) (hb : b + 850 ≤ 7211114) (K : zGo G X a b i) : SN G X a b 2400 [some (.ref 400), some (.ref 0), some (.ref 12), some (.ref 23), some (.ref 24), some (zi i), none, none, none] [] S J E := by
  obtain ⟨C, Z, NC, hl, hG⟩ := W
  obtain ⟨k, d1, d2, mc, ms, S1, S2, E1, w, ⟨h1, h2, h3, h4⟩, c1, c2, hk, hk5, hJ, H2⟩ := op_gossipShare hl (G := G) (J := J) (E := E) H 
  refine sw_aload_1 C dL_law_2400 ?_
  refine sw_aload_4 C dL_law_2401 ?_
  refine sw_callW (as := [.ref 0, .ref 24]) (st := []) (n := 2) C (fun s e => e ▸ NC) wL_gossipShare rfl iL_law ⟨by decide, by decide⟩ (by decide) (by decide) sL_gossipShare kL_294 dL_law_2403 rfl (Nat.le_of_ble_eq_true rfl) c1 (by omega) (by omega) (by omega) ?_
  refine sw_istore_6 C rfl dL_law_2406 ?_
  refine sw_aload_2 C dL_law_2408 ?_
  refine sn_cV0r C vX6_gossipShare lL_296 rfl (by decide) rfl rfl dL_law_2409 (Nat.le_of_ble_eq_true rfl) c2 (by omega) (by omega) (by omega) ?_
  refine sw_fstore_7 C rfl dL_law_2412 ?_
  refine sw_aload_2 C dL_law_2414 ?_
  refine sn_cV0r C vX6_thrown lL_164 rfl (by decide) rfl rfl dL_law_2415 (Nat.le_of_ble_eq_true rfl) (c_X6_thrown hl) (by omega) (by omega) (by omega) ?_
  refine sw_iload_6 C dL_law_2418 ?_
  refine sn_icmp_eq C 2425 (by omega) (by omega) dL_law_2420 (by decide) (fun c => ?_) (fun c => absurd hk c)
  refine sw_iload_6 C dL_law_2425 ?_
  refine sn_if_ne C 2463 (by omega) dL_law_2427 (by decide) (fun c1 => ?_) (fun c0 => ?_)
  · refine sw_goto C 2938 dL_law_2463 (by decide) ?_
    exact sw_fg (K _ _ _ _ _ (by omega) (by omega) H2)
  · have eJ := hJ c0
    obtain ⟨eE, hv, eq⟩ := eJ
    refine sw_aload_4 C dL_law_2430 ?_
    refine sn_iconst C 0 (by decide) dL_law_2432 ?_
    refine sw_dald C dL_law_2433 ?_
    refine sw_fload_7 C dL_law_2434 ?_
    refine sw_f2d C hv dL_law_2436 ?_
    refine sw_dcmp C dL_law_2437 ?_
    refine sw_if_eq C 2463 dL_law_2438 (by decide) (fun _ => ?_) (fun c => absurd (by rw [eE, eq]; rfl) c)
    refine sw_goto C 2938 dL_law_2463 (by decide) ?_
    exact sw_fg (K _ _ _ _ _ (by omega) (by omega) H2)
set_option maxRecDepth 100000 in
set_option maxHeartbeats 4000000 in
theorem cs_41 {G : zG} {X : zX} {L : Nat} {xs : Nat → Int32} {a b i : Nat} {S : zS} {J : Int64} {E : UInt64} (W : zLw G X L xs) (H : zInv S S) (hi : i + 3 ≤ L) (hL : L ≤ 1536) (ha : a + 25 ≤ 603072) (hb : b + 850 ≤ 7211114) (K : zGo G X a b i) : SN G X a b 2466 [some (.ref 400), some (.ref 0), some (.ref 12), some (.ref 23), some (.ref 24), some (zi i), none, none, none] [] S J E := by
  obtain ⟨C, Z, NC, hl, hG⟩ := W
  obtain ⟨v, w, d1, d2, S1, S2, ⟨h1, h2⟩, c1, c2, hv, H2⟩ := op_isConsistent hl (G := G) (J := J) (E := E) H
  refine sw_aload_1 C dL_law_2466 ?_
  refine sn_cV0r C vX5_isConsistent lL_297 rfl (by decide) rfl rfl dL_law_2467 (Nat.le_of_ble_eq_true rfl) c1 (by omega) (by omega) (by omega) ?_
  refine sw_aload_2 C dL_law_2470 ?_
  refine sn_cV0r C vX6_isConsistent lL_301 rfl (by decide) rfl rfl dL_law_2471 (Nat.le_of_ble_eq_true rfl) c2 (by omega) (by omega) (by omega) ?_
  exact sw_icmp_eq C 2938 dL_law_2474 (by decide) (fun c => K _ _ _ _ _ (by omega) (by omega) H2) (fun c => absurd hv c)
set_option maxRecDepth 100000 in
set_option maxHeartbeats 4000000 in
theorem cs_42 {G : zG} {X : zX} {L : Nat} {xs : Nat → Int32} {a b i : Nat} {S : zS} {J : Int64} {E : UInt64} (W : zLw G X L xs) (H : zInv S S) (hi : i + 3 ≤ L) (hL : L ≤ 1536) (ha : a + 25 ≤ 603072) (hb : b + 850 ≤ 7211114) (K : zGo G X a b i) : SN G X a b 2479 [some (.ref 400), some (.ref 0), some (.ref 12), some (.ref 23), some (.ref 24), some (zi i), none, none, none] [] S J E := by
  obtain ⟨C, Z, NC, hl, hG⟩ := W
  obtain ⟨x, hx, ex⟩ := zInt (xs (i + 1))
  obtain ⟨k, w, d1, d2, mc, ms, S1, S2, J1, ⟨h1, h2, h3, h4⟩, c1, c2, hk, hk5, hJ, H2⟩ := op_renderRumour hl hG (G := G) (J := J) (E := E) H hx
  refine sw_aload_1 C dL_law_2479 ?_
  refine sw_aload_0 C dL_law_2480 ?_
  refine sw_iload_5 C dL_law_2481 ?_
  refine sn_iconst C 1 (by decide) dL_law_2483 ?_
  refine sn_iadd C dL_law_2484 ?_
  refine sw_sld C Z (by omega) hL ex dL_law_2485 ?_
  refine sw_aload_3 C dL_law_2486 ?_
  refine sw_callW (as := [.ref 0, zi x, .ref 23]) (st := []) (n := 3) C (fun s e => e ▸ NC) wL_renderRumour rfl iL_law ⟨by decide, by decide⟩ (by decide) (by decide) sL_renderRumour kL_302 dL_law_2487 rfl (Nat.le_of_ble_eq_true rfl) c1 (by omega) (by omega) (by omega) ?_
  refine sw_istore_6 C rfl dL_law_2490 ?_
  refine sw_aload_2 C dL_law_2492 ?_
  refine sw_aload_0 C dL_law_2493 ?_
  refine sw_iload_5 C dL_law_2494 ?_
  refine sn_iconst C 1 (by decide) dL_law_2496 ?_
  refine sn_iadd C dL_law_2497 ?_
  refine sw_sld C Z (by omega) hL ex dL_law_2498 ?_
  refine sn_cV1r C vX6_renderRumour lL_304 rfl (by decide) rfl rfl dL_law_2499 (Nat.le_of_ble_eq_true rfl) c2 (by omega) (by omega) (by omega) ?_
  refine sw_istore_7 C rfl dL_law_2502 ?_
  refine sw_aload_2 C dL_law_2504 ?_
  refine sn_cV0r C vX6_thrown lL_164 rfl (by decide) rfl rfl dL_law_2505 (Nat.le_of_ble_eq_true rfl) (c_X6_thrown hl) (by omega) (by omega) (by omega) ?_
  refine sw_iload_6 C dL_law_2508 ?_
  refine sn_icmp_eq C 2515 (by omega) (by omega) dL_law_2510 (by decide) (fun c => ?_) (fun c => absurd hk c)
  refine sw_iload_6 C dL_law_2515 ?_
  refine sn_if_ne C 2532 (by omega) dL_law_2517 (by decide) (fun c1 => ?_) (fun c0 => ?_)
  · refine sw_goto C 2938 dL_law_2532 (by decide) ?_
    exact sw_fg (K _ _ _ _ _ (by omega) (by omega) H2)
  · have eJ := hJ c0
    refine sw_aload_3 C dL_law_2520 ?_
    refine sn_iconst C 0 (by decide) dL_law_2521 ?_
    refine sw_lald C dL_law_2522 ?_
    refine sw_iload_7 C dL_law_2523 ?_
    refine sw_i2l C dL_law_2525 ?_
    refine sw_lcmp C dL_law_2526 ?_
    refine sw_if_eq C 2532 dL_law_2527 (by decide) (fun _ => ?_) (fun c => absurd (by rw [eJ]; exact zCmp_self) c)
    refine sw_goto C 2938 dL_law_2532 (by decide) ?_
    exact sw_fg (K _ _ _ _ _ (by omega) (by omega) H2)
set_option maxRecDepth 100000 in
set_option maxHeartbeats 4000000 in
theorem cs_43 {G : zG} {X : zX} {L : Nat} {xs : Nat → Int32} {a b i : Nat} {S : zS} {J : Int64} {E : UInt64} (W : zLw G X L xs) (H : zInv S S) (hi : i + 3 ≤ L) (hL : L ≤ 1536) (ha : a + 25 ≤ 603072) (hb : b + 850 ≤ 7211114) (K : zGo G X a b i) : SN G X a b 2535 [some (.ref 400), some (.ref 0), some (.ref 12), some (.ref 23), some (.ref 24), some (zi i), none, none, none] [] S J E := by
  obtain ⟨C, Z, NC, hl, hG⟩ := W
  obtain ⟨x, hx, ex⟩ := zInt (xs (i + 1))
  obtain ⟨k, w, d1, d2, mc, ms, S1, S2, J1, ⟨h1, h2, h3, h4⟩, c1, c2, hk, hk5, hJ, H2⟩ := op_renderHive hl hG (G := G) (J := J) (E := E) H hx
  refine sw_aload_1 C dL_law_2535 ?_
  refine sw_aload_0 C dL_law_2536 ?_
  refine sw_iload_5 C dL_law_2537 ?_
  refine sn_iconst C 1 (by decide) dL_law_2539 ?_
  refine sn_iadd C dL_law_2540 ?_
  refine sw_sld C Z (by omega) hL ex dL_law_2541 ?_
  refine sw_aload_3 C dL_law_2542 ?_
  refine sw_callW (as := [.ref 0, zi x, .ref 23]) (st := []) (n := 3) C (fun s e => e ▸ NC) wL_renderHive rfl iL_law ⟨by decide, by decide⟩ (by decide) (by decide) sL_renderHive kL_305 dL_law_2543 rfl (Nat.le_of_ble_eq_true rfl) c1 (by omega) (by omega) (by omega) ?_
  refine sw_istore_6 C rfl dL_law_2546 ?_
  refine sw_aload_2 C dL_law_2548 ?_
  refine sw_aload_0 C dL_law_2549 ?_
  refine sw_iload_5 C dL_law_2550 ?_
  refine sn_iconst C 1 (by decide) dL_law_2552 ?_
  refine sn_iadd C dL_law_2553 ?_
  refine sw_sld C Z (by omega) hL ex dL_law_2554 ?_
  refine sn_cV1r C vX6_renderHive lL_307 rfl (by decide) rfl rfl dL_law_2555 (Nat.le_of_ble_eq_true rfl) c2 (by omega) (by omega) (by omega) ?_
  refine sw_istore_7 C rfl dL_law_2558 ?_
  refine sw_aload_2 C dL_law_2560 ?_
  refine sn_cV0r C vX6_thrown lL_164 rfl (by decide) rfl rfl dL_law_2561 (Nat.le_of_ble_eq_true rfl) (c_X6_thrown hl) (by omega) (by omega) (by omega) ?_
  refine sw_iload_6 C dL_law_2564 ?_
  refine sn_icmp_eq C 2571 (by omega) (by omega) dL_law_2566 (by decide) (fun c => ?_) (fun c => absurd hk c)
  refine sw_iload_6 C dL_law_2571 ?_
  refine sn_if_ne C 2588 (by omega) dL_law_2573 (by decide) (fun c1 => ?_) (fun c0 => ?_)
  · refine sw_goto C 2938 dL_law_2588 (by decide) ?_
    exact sw_fg (K _ _ _ _ _ (by omega) (by omega) H2)
  · have eJ := hJ c0
    refine sw_aload_3 C dL_law_2576 ?_
    refine sn_iconst C 0 (by decide) dL_law_2577 ?_
    refine sw_lald C dL_law_2578 ?_
    refine sw_iload_7 C dL_law_2579 ?_
    refine sw_i2l C dL_law_2581 ?_
    refine sw_lcmp C dL_law_2582 ?_
    refine sw_if_eq C 2588 dL_law_2583 (by decide) (fun _ => ?_) (fun c => absurd (by rw [eJ]; exact zCmp_self) c)
    refine sw_goto C 2938 dL_law_2588 (by decide) ?_
    exact sw_fg (K _ _ _ _ _ (by omega) (by omega) H2)
set_option maxRecDepth 100000 in
set_option maxHeartbeats 4000000 in
theorem cs_44 {G : zG} {X : zX} {L : Nat} {xs : Nat → Int32} {a b i : Nat} {S : zS} {J : Int64} {E : UInt64} (W : zLw G X L xs) (H : zInv S S) (hi : i + 3 ≤ L) (hL : L ≤ 1536) (ha : a + 25 ≤ 603072) (hb : b + 850 ≤ 7211114) (K : zGo G X a b i) : SN G X a b 2591 [some (.ref 400), some (.ref 0), some (.ref 12), some (.ref 23), some (.ref 24), some (zi i), none, none, none] [] S J E := by
  obtain ⟨C, Z, NC, hl, hG⟩ := W
  obtain ⟨x, hx, ex⟩ := zInt (xs (i + 1))
  obtain ⟨k, w, d1, d2, mc, ms, S1, S2, J1, ⟨h1, h2, h3, h4⟩, c1, c2, hk, hk5, hJ, H2⟩ := op_outputAt hl hG (G := G) (J := J) (E := E) H hx
  refine sw_aload_1 C dL_law_2591 ?_
  refine sw_aload_0 C dL_law_2592 ?_
  refine sw_iload_5 C dL_law_2593 ?_
  refine sn_iconst C 1 (by decide) dL_law_2595 ?_
  refine sn_iadd C dL_law_2596 ?_
  refine sw_sld C Z (by omega) hL ex dL_law_2597 ?_
  refine sw_aload_3 C dL_law_2598 ?_
  refine sw_callW (as := [.ref 0, zi x, .ref 23]) (st := []) (n := 3) C (fun s e => e ▸ NC) wL_outputAt rfl iL_law ⟨by decide, by decide⟩ (by decide) (by decide) sL_outputAt kL_308 dL_law_2599 rfl (Nat.le_of_ble_eq_true rfl) c1 (by omega) (by omega) (by omega) ?_
  refine sw_istore_6 C rfl dL_law_2602 ?_
  refine sw_aload_2 C dL_law_2604 ?_
  refine sw_aload_0 C dL_law_2605 ?_
  refine sw_iload_5 C dL_law_2606 ?_
  refine sn_iconst C 1 (by decide) dL_law_2608 ?_
  refine sn_iadd C dL_law_2609 ?_
  refine sw_sld C Z (by omega) hL ex dL_law_2610 ?_
  refine sn_cV1r C vX6_outputAt lL_310 rfl (by decide) rfl rfl dL_law_2611 (Nat.le_of_ble_eq_true rfl) c2 (by omega) (by omega) (by omega) ?_
  refine sw_istore_7 C rfl dL_law_2614 ?_
  refine sw_aload_2 C dL_law_2616 ?_
  refine sn_cV0r C vX6_thrown lL_164 rfl (by decide) rfl rfl dL_law_2617 (Nat.le_of_ble_eq_true rfl) (c_X6_thrown hl) (by omega) (by omega) (by omega) ?_
  refine sw_iload_6 C dL_law_2620 ?_
  refine sn_icmp_eq C 2627 (by omega) (by omega) dL_law_2622 (by decide) (fun c => ?_) (fun c => absurd hk c)
  refine sw_iload_6 C dL_law_2627 ?_
  refine sn_if_ne C 2644 (by omega) dL_law_2629 (by decide) (fun c1 => ?_) (fun c0 => ?_)
  · refine sw_goto C 2938 dL_law_2644 (by decide) ?_
    exact sw_fg (K _ _ _ _ _ (by omega) (by omega) H2)
  · have eJ := hJ c0
    refine sw_aload_3 C dL_law_2632 ?_
    refine sn_iconst C 0 (by decide) dL_law_2633 ?_
    refine sw_lald C dL_law_2634 ?_
    refine sw_iload_7 C dL_law_2635 ?_
    refine sw_i2l C dL_law_2637 ?_
    refine sw_lcmp C dL_law_2638 ?_
    refine sw_if_eq C 2644 dL_law_2639 (by decide) (fun _ => ?_) (fun c => absurd (by rw [eJ]; exact zCmp_self) c)
    refine sw_goto C 2938 dL_law_2644 (by decide) ?_
    exact sw_fg (K _ _ _ _ _ (by omega) (by omega) H2)
set_option maxRecDepth 100000 in
set_option maxHeartbeats 4000000 in
theorem cs_45 {G : zG} {X : zX} {L : Nat} {xs : Nat → Int32} {a b i : Nat} {S : zS} {J : Int64} {E : UInt64} (W : zLw G X L xs) (H : zInv S S) (hi : i + 3 ≤ L) (hL : L ≤ 1536) (ha : a + 25 ≤ 603072) (hb : b + 850 ≤ 7211114) (K : zGo G X a b i) : SN G X a b 2647 [some (.ref 400), some (.ref 0), some (.ref 12), some (.ref 23), some (.ref 24), some (zi i), none, none, none] [] S J E := by
  obtain ⟨C, Z, NC, hl, hG⟩ := W
  obtain ⟨x, hx, ex⟩ := zInt (xs (i + 1))
  obtain ⟨k, w, d1, d2, mc, ms, S1, S2, J1, ⟨h1, h2, h3, h4⟩, c1, c2, hk, hk5, hJ, H2⟩ := op_type hl (G := G) (J := J) (E := E) H (x := x % 65536) (Nat.mod_lt _ (by decide))
  refine sw_aload_1 C dL_law_2647 ?_
  refine sw_aload_0 C dL_law_2648 ?_
  refine sw_iload_5 C dL_law_2649 ?_
  refine sn_iconst C 1 (by decide) dL_law_2651 ?_
  refine sn_iadd C dL_law_2652 ?_
  refine sw_sld C Z (by omega) hL ex dL_law_2653 ?_
  refine sn_i2cw C dL_law_2654 ?_
  refine sw_aload_3 C dL_law_2655 ?_
  refine sw_callW (as := [.ref 0, zi (x % 65536), .ref 23]) (st := []) (n := 3) C (fun s e => e ▸ NC) wL_type rfl iL_law ⟨by decide, by decide⟩ (by decide) (by decide) sL_type kL_311 dL_law_2656 rfl (Nat.le_of_ble_eq_true rfl) c1 (by omega) (by omega) (by omega) ?_
  refine sw_istore_6 C rfl dL_law_2659 ?_
  refine sw_aload_2 C dL_law_2661 ?_
  refine sw_aload_0 C dL_law_2662 ?_
  refine sw_iload_5 C dL_law_2663 ?_
  refine sn_iconst C 1 (by decide) dL_law_2665 ?_
  refine sn_iadd C dL_law_2666 ?_
  refine sw_sld C Z (by omega) hL ex dL_law_2667 ?_
  refine sn_i2cw C dL_law_2668 ?_
  refine sn_cV1r C vX6_type lL_314 rfl (by decide) rfl rfl dL_law_2669 (Nat.le_of_ble_eq_true rfl) c2 (by omega) (by omega) (by omega) ?_
  refine sw_istore_7 C rfl dL_law_2672 ?_
  refine sw_aload_2 C dL_law_2674 ?_
  refine sn_cV0r C vX6_thrown lL_164 rfl (by decide) rfl rfl dL_law_2675 (Nat.le_of_ble_eq_true rfl) (c_X6_thrown hl) (by omega) (by omega) (by omega) ?_
  refine sw_iload_6 C dL_law_2678 ?_
  refine sn_icmp_eq C 2685 (by omega) (by omega) dL_law_2680 (by decide) (fun c => ?_) (fun c => absurd hk c)
  refine sw_iload_6 C dL_law_2685 ?_
  refine sn_if_ne C 2702 (by omega) dL_law_2687 (by decide) (fun c1 => ?_) (fun c0 => ?_)
  · refine sw_goto C 2938 dL_law_2702 (by decide) ?_
    exact sw_fg (K _ _ _ _ _ (by omega) (by omega) H2)
  · have eJ := hJ c0
    refine sw_aload_3 C dL_law_2690 ?_
    refine sn_iconst C 0 (by decide) dL_law_2691 ?_
    refine sw_lald C dL_law_2692 ?_
    refine sw_iload_7 C dL_law_2693 ?_
    refine sw_i2l C dL_law_2695 ?_
    refine sw_lcmp C dL_law_2696 ?_
    refine sw_if_eq C 2702 dL_law_2697 (by decide) (fun _ => ?_) (fun c => absurd (by rw [eJ]; exact zCmp_self) c)
    refine sw_goto C 2938 dL_law_2702 (by decide) ?_
    exact sw_fg (K _ _ _ _ _ (by omega) (by omega) H2)
set_option maxRecDepth 100000 in
set_option maxHeartbeats 4000000 in
theorem cs_46 {G : zG} {X : zX} {L : Nat} {xs : Nat → Int32} {a b i : Nat} {S : zS} {J : Int64} {E : UInt64} (W : zLw G X L xs) (H : zInv S S) (hi : i + 3 ≤ L) (hL : L ≤ 1536) (ha : a + 25 ≤ 603072) (hb : b + 850 ≤ 7211114) (K : zGo G X a b i) : SN G X a b 2705 [some (.ref 400), some (.ref 0), some (.ref 12), some (.ref 23), some (.ref 24), some (zi i), none, none, none] [] S J E := by
  obtain ⟨C, Z, NC, hl, hG⟩ := W
  obtain ⟨k, w, d1, d2, mc, ms, S1, S2, J1, ⟨h1, h2, h3, h4⟩, c1, c2, hk, hk5, hJ, H2⟩ := op_runScript hl (G := G) (J := J) (E := E) H 
  refine sw_aload_1 C dL_law_2705 ?_
  refine sw_aload_3 C dL_law_2706 ?_
  refine sw_callW (as := [.ref 0, .ref 23]) (st := []) (n := 2) C (fun s e => e ▸ NC) wL_runScript rfl iL_law ⟨by decide, by decide⟩ (by decide) (by decide) sL_runScript kL_315 dL_law_2707 rfl (Nat.le_of_ble_eq_true rfl) c1 (by omega) (by omega) (by omega) ?_
  refine sw_istore_6 C rfl dL_law_2710 ?_
  refine sw_aload_2 C dL_law_2712 ?_
  refine sn_cV0r C vX6_runScript lL_318 rfl (by decide) rfl rfl dL_law_2713 (Nat.le_of_ble_eq_true rfl) c2 (by omega) (by omega) (by omega) ?_
  refine sw_istore_7 C rfl dL_law_2716 ?_
  refine sw_aload_2 C dL_law_2718 ?_
  refine sn_cV0r C vX6_thrown lL_164 rfl (by decide) rfl rfl dL_law_2719 (Nat.le_of_ble_eq_true rfl) (c_X6_thrown hl) (by omega) (by omega) (by omega) ?_
  refine sw_iload_6 C dL_law_2722 ?_
  refine sn_icmp_eq C 2729 (by omega) (by omega) dL_law_2724 (by decide) (fun c => ?_) (fun c => absurd hk c)
  refine sw_iload_6 C dL_law_2729 ?_
  refine sn_if_ne C 2746 (by omega) dL_law_2731 (by decide) (fun c1 => ?_) (fun c0 => ?_)
  · refine sw_goto C 2938 dL_law_2746 (by decide) ?_
    exact sw_fg (K _ _ _ _ _ (by omega) (by omega) H2)
  · have eJ := hJ c0
    refine sw_aload_3 C dL_law_2734 ?_
    refine sn_iconst C 0 (by decide) dL_law_2735 ?_
    refine sw_lald C dL_law_2736 ?_
    refine sw_iload_7 C dL_law_2737 ?_
    refine sw_i2l C dL_law_2739 ?_
    refine sw_lcmp C dL_law_2740 ?_
    refine sw_if_eq C 2746 dL_law_2741 (by decide) (fun _ => ?_) (fun c => absurd (by rw [eJ]; exact zCmp_self) c)
    refine sw_goto C 2938 dL_law_2746 (by decide) ?_
    exact sw_fg (K _ _ _ _ _ (by omega) (by omega) H2)
set_option maxRecDepth 100000 in
set_option maxHeartbeats 4000000 in
theorem cs_47 {G : zG} {X : zX} {L : Nat} {xs : Nat → Int32} {a b i : Nat} {S : zS} {J : Int64} {E : UInt64} (W : zLw G X L xs) (H : zInv S S) (hi : i + 3 ≤ L) (hL : L ≤ 1536) (ha : a + 25 ≤ 603072) (hb : b + 850 ≤ 7211114) (K : zGo G X a b i) : SN G X a b 2749 [some (.ref 400), some (.ref 0), some (.ref 12), some (.ref 23), some (.ref 24), some (zi i), none, none, none] [] S J E := by
  obtain ⟨C, Z, NC, hl, hG⟩ := W
  obtain ⟨k, w, d1, d2, mc, ms, S1, S2, J1, ⟨h1, h2, h3, h4⟩, c1, c2, hk, hk5, hJ, H2⟩ := op_errorPosition hl (G := G) (J := J) (E := E) H 
  refine sw_aload_1 C dL_law_2749 ?_
  refine sw_aload_3 C dL_law_2750 ?_
  refine sw_callW (as := [.ref 0, .ref 23]) (st := []) (n := 2) C (fun s e => e ▸ NC) wL_errorPosition rfl iL_law ⟨by decide, by decide⟩ (by decide) (by decide) sL_errorPosition kL_319 dL_law_2751 rfl (Nat.le_of_ble_eq_true rfl) c1 (by omega) (by omega) (by omega) ?_
  refine sw_istore_6 C rfl dL_law_2754 ?_
  refine sw_aload_2 C dL_law_2756 ?_
  refine sn_cV0r C vX6_errorPosition lL_321 rfl (by decide) rfl rfl dL_law_2757 (Nat.le_of_ble_eq_true rfl) c2 (by omega) (by omega) (by omega) ?_
  refine sw_istore_7 C rfl dL_law_2760 ?_
  refine sw_aload_2 C dL_law_2762 ?_
  refine sn_cV0r C vX6_thrown lL_164 rfl (by decide) rfl rfl dL_law_2763 (Nat.le_of_ble_eq_true rfl) (c_X6_thrown hl) (by omega) (by omega) (by omega) ?_
  refine sw_iload_6 C dL_law_2766 ?_
  refine sn_icmp_eq C 2773 (by omega) (by omega) dL_law_2768 (by decide) (fun c => ?_) (fun c => absurd hk c)
  refine sw_iload_6 C dL_law_2773 ?_
  refine sn_if_ne C 2790 (by omega) dL_law_2775 (by decide) (fun c1 => ?_) (fun c0 => ?_)
  · refine sw_goto C 2938 dL_law_2790 (by decide) ?_
    exact sw_fg (K _ _ _ _ _ (by omega) (by omega) H2)
  · have eJ := hJ c0
    refine sw_aload_3 C dL_law_2778 ?_
    refine sn_iconst C 0 (by decide) dL_law_2779 ?_
    refine sw_lald C dL_law_2780 ?_
    refine sw_iload_7 C dL_law_2781 ?_
    refine sw_i2l C dL_law_2783 ?_
    refine sw_lcmp C dL_law_2784 ?_
    refine sw_if_eq C 2790 dL_law_2785 (by decide) (fun _ => ?_) (fun c => absurd (by rw [eJ]; exact zCmp_self) c)
    refine sw_goto C 2938 dL_law_2790 (by decide) ?_
    exact sw_fg (K _ _ _ _ _ (by omega) (by omega) H2)
set_option maxRecDepth 100000 in
set_option maxHeartbeats 4000000 in
theorem cs_48 {G : zG} {X : zX} {L : Nat} {xs : Nat → Int32} {a b i : Nat} {S : zS} {J : Int64} {E : UInt64} (W : zLw G X L xs) (H : zInv S S) (hi : i + 3 ≤ L) (hL : L ≤ 1536) (ha : a + 25 ≤ 603072) (hb : b + 850 ≤ 7211114) (K : zGo G X a b i) : SN G X a b 2793 [some (.ref 400), some (.ref 0), some (.ref 12), some (.ref 23), some (.ref 24), some (zi i), none, none, none] [] S J E := by
  obtain ⟨C, Z, NC, hl, hG⟩ := W
  obtain ⟨k, w, d1, d2, mc, ms, S1, S2, J1, ⟨h1, h2, h3, h4⟩, c1, c2, hk, hk5, hJ, H2⟩ := op_failedCommand hl (G := G) (J := J) (E := E) H 
  refine sw_aload_1 C dL_law_2793 ?_
  refine sw_aload_3 C dL_law_2794 ?_
  refine sw_callW (as := [.ref 0, .ref 23]) (st := []) (n := 2) C (fun s e => e ▸ NC) wL_failedCommand rfl iL_law ⟨by decide, by decide⟩ (by decide) (by decide) sL_failedCommand kL_322 dL_law_2795 rfl (Nat.le_of_ble_eq_true rfl) c1 (by omega) (by omega) (by omega) ?_
  refine sw_istore_6 C rfl dL_law_2798 ?_
  refine sw_aload_2 C dL_law_2800 ?_
  refine sn_cV0r C vX6_failedCommand lL_324 rfl (by decide) rfl rfl dL_law_2801 (Nat.le_of_ble_eq_true rfl) c2 (by omega) (by omega) (by omega) ?_
  refine sw_istore_7 C rfl dL_law_2804 ?_
  refine sw_aload_2 C dL_law_2806 ?_
  refine sn_cV0r C vX6_thrown lL_164 rfl (by decide) rfl rfl dL_law_2807 (Nat.le_of_ble_eq_true rfl) (c_X6_thrown hl) (by omega) (by omega) (by omega) ?_
  refine sw_iload_6 C dL_law_2810 ?_
  refine sn_icmp_eq C 2817 (by omega) (by omega) dL_law_2812 (by decide) (fun c => ?_) (fun c => absurd hk c)
  refine sw_iload_6 C dL_law_2817 ?_
  refine sn_if_ne C 2834 (by omega) dL_law_2819 (by decide) (fun c1 => ?_) (fun c0 => ?_)
  · refine sw_goto C 2938 dL_law_2834 (by decide) ?_
    exact sw_fg (K _ _ _ _ _ (by omega) (by omega) H2)
  · have eJ := hJ c0
    refine sw_aload_3 C dL_law_2822 ?_
    refine sn_iconst C 0 (by decide) dL_law_2823 ?_
    refine sw_lald C dL_law_2824 ?_
    refine sw_iload_7 C dL_law_2825 ?_
    refine sw_i2l C dL_law_2827 ?_
    refine sw_lcmp C dL_law_2828 ?_
    refine sw_if_eq C 2834 dL_law_2829 (by decide) (fun _ => ?_) (fun c => absurd (by rw [eJ]; exact zCmp_self) c)
    refine sw_goto C 2938 dL_law_2834 (by decide) ?_
    exact sw_fg (K _ _ _ _ _ (by omega) (by omega) H2)
set_option maxRecDepth 100000 in
set_option maxHeartbeats 4000000 in
theorem cs_49 {G : zG} {X : zX} {L : Nat} {xs : Nat → Int32} {a b i : Nat} {S : zS} {J : Int64} {E : UInt64} (W : zLw G X L xs) (H : zInv S S) (hi : i + 3 ≤ L) (hL : L ≤ 1536) (ha : a + 25 ≤ 603072) (hb : b + 850 ≤ 7211114) (K : zGo G X a b i) : SN G X a b 2837 [some (.ref 400), some (.ref 0), some (.ref 12), some (.ref 23), some (.ref 24), some (zi i), none, none, none] [] S J E := by
  obtain ⟨C, Z, NC, hl, hG⟩ := W
  obtain ⟨k, w, d1, d2, mc, ms, S1, S2, J1, ⟨h1, h2, h3, h4⟩, c1, c2, hk, hk5, hJ, H2⟩ := op_undo hl (G := G) (J := J) (E := E) H 
  refine sw_aload_1 C dL_law_2837 ?_
  refine sw_aload_3 C dL_law_2838 ?_
  refine sw_callW (as := [.ref 0, .ref 23]) (st := []) (n := 2) C (fun s e => e ▸ NC) wL_undo rfl iL_law ⟨by decide, by decide⟩ (by decide) (by decide) sL_undo kL_325 dL_law_2839 rfl (Nat.le_of_ble_eq_true rfl) c1 (by omega) (by omega) (by omega) ?_
  refine sw_istore_6 C rfl dL_law_2842 ?_
  refine sw_aload_2 C dL_law_2844 ?_
  refine sn_cV0r C vX6_undo lL_327 rfl (by decide) rfl rfl dL_law_2845 (Nat.le_of_ble_eq_true rfl) c2 (by omega) (by omega) (by omega) ?_
  refine sw_istore_7 C rfl dL_law_2848 ?_
  refine sw_aload_2 C dL_law_2850 ?_
  refine sn_cV0r C vX6_thrown lL_164 rfl (by decide) rfl rfl dL_law_2851 (Nat.le_of_ble_eq_true rfl) (c_X6_thrown hl) (by omega) (by omega) (by omega) ?_
  refine sw_iload_6 C dL_law_2854 ?_
  refine sn_icmp_eq C 2861 (by omega) (by omega) dL_law_2856 (by decide) (fun c => ?_) (fun c => absurd hk c)
  refine sw_iload_6 C dL_law_2861 ?_
  refine sn_if_ne C 2878 (by omega) dL_law_2863 (by decide) (fun c1 => ?_) (fun c0 => ?_)
  · refine sw_goto C 2938 dL_law_2878 (by decide) ?_
    exact sw_fg (K _ _ _ _ _ (by omega) (by omega) H2)
  · have eJ := hJ c0
    refine sw_aload_3 C dL_law_2866 ?_
    refine sn_iconst C 0 (by decide) dL_law_2867 ?_
    refine sw_lald C dL_law_2868 ?_
    refine sw_iload_7 C dL_law_2869 ?_
    refine sw_i2l C dL_law_2871 ?_
    refine sw_lcmp C dL_law_2872 ?_
    refine sw_if_eq C 2878 dL_law_2873 (by decide) (fun _ => ?_) (fun c => absurd (by rw [eJ]; exact zCmp_self) c)
    refine sw_goto C 2938 dL_law_2878 (by decide) ?_
    exact sw_fg (K _ _ _ _ _ (by omega) (by omega) H2)
set_option maxRecDepth 100000 in
set_option maxHeartbeats 4000000 in
theorem cs_50 {G : zG} {X : zX} {L : Nat} {xs : Nat → Int32} {a b i : Nat} {S : zS} {J : Int64} {E : UInt64} (W : zLw G X L xs) (H : zInv S S) (hi : i + 3 ≤ L) (hL : L ≤ 1536) (ha : a + 25 ≤ 603072) (hb : b + 850 ≤ 7211114) (K : zGo G X a b i) : SN G X a b 2881 [some (.ref 400), some (.ref 0), some (.ref 12), some (.ref 23), some (.ref 24), some (zi i), none, none, none] [] S J E := by
  obtain ⟨C, Z, NC, hl, hG⟩ := W
  obtain ⟨v, w, d1, d2, S1, S2, ⟨h1, h2⟩, c1, c2, hv, H2⟩ := op_save hl (G := G) (J := J) (E := E) H
  refine sw_aload_1 C dL_law_2881 ?_
  refine sn_cV0r C vX5_save lL_328 rfl (by decide) rfl rfl dL_law_2882 (Nat.le_of_ble_eq_true rfl) c1 (by omega) (by omega) (by omega) ?_
  refine sw_aload_2 C dL_law_2885 ?_
  refine sn_cV0r C vX6_save lL_331 rfl (by decide) rfl rfl dL_law_2886 (Nat.le_of_ble_eq_true rfl) c2 (by omega) (by omega) (by omega) ?_
  exact sw_icmp_eq C 2938 dL_law_2889 (by decide) (fun c => K _ _ _ _ _ (by omega) (by omega) H2) (fun c => absurd hv c)
set_option maxRecDepth 100000 in
set_option maxHeartbeats 4000000 in
theorem cs_51 {G : zG} {X : zX} {L : Nat} {xs : Nat → Int32} {a b i : Nat} {S : zS} {J : Int64} {E : UInt64} (W : zLw G X L xs) (H : zInv S S) (hi : i + 3 ≤ L) (hL : L ≤ 1536) (ha : a + 25 ≤ 603072) (hb : b + 850 ≤ 7211114) (K : zGo G X a b i) : SN G X a b 2894 [some (.ref 400), some (.ref 0), some (.ref 12), some (.ref 23), some (.ref 24), some (zi i), none, none, none] [] S J E := by
  obtain ⟨C, Z, NC, hl, hG⟩ := W
  obtain ⟨k, w, d1, d2, mc, ms, S1, S2, J1, ⟨h1, h2, h3, h4⟩, c1, c2, hk, hk5, hJ, H2⟩ := op_restore hl (G := G) (J := J) (E := E) H 
  refine sw_aload_1 C dL_law_2894 ?_
  refine sw_aload_3 C dL_law_2895 ?_
  refine sw_callW (as := [.ref 0, .ref 23]) (st := []) (n := 2) C (fun s e => e ▸ NC) wL_restore rfl iL_law ⟨by decide, by decide⟩ (by decide) (by decide) sL_restore kL_332 dL_law_2896 rfl (Nat.le_of_ble_eq_true rfl) c1 (by omega) (by omega) (by omega) ?_
  refine sw_istore_6 C rfl dL_law_2899 ?_
  refine sw_aload_2 C dL_law_2901 ?_
  refine sn_cV0r C vX6_restore lL_334 rfl (by decide) rfl rfl dL_law_2902 (Nat.le_of_ble_eq_true rfl) c2 (by omega) (by omega) (by omega) ?_
  refine sw_istore_7 C rfl dL_law_2905 ?_
  refine sw_aload_2 C dL_law_2907 ?_
  refine sn_cV0r C vX6_thrown lL_164 rfl (by decide) rfl rfl dL_law_2908 (Nat.le_of_ble_eq_true rfl) (c_X6_thrown hl) (by omega) (by omega) (by omega) ?_
  refine sw_iload_6 C dL_law_2911 ?_
  refine sn_icmp_eq C 2918 (by omega) (by omega) dL_law_2913 (by decide) (fun c => ?_) (fun c => absurd hk c)
  refine sw_iload_6 C dL_law_2918 ?_
  refine sn_if_ne C 2935 (by omega) dL_law_2920 (by decide) (fun c1 => ?_) (fun c0 => ?_)
  · refine sw_goto C 2938 dL_law_2935 (by decide) ?_
    exact sw_fg (K _ _ _ _ _ (by omega) (by omega) H2)
  · have eJ := hJ c0
    refine sw_aload_3 C dL_law_2923 ?_
    refine sn_iconst C 0 (by decide) dL_law_2924 ?_
    refine sw_lald C dL_law_2925 ?_
    refine sw_iload_7 C dL_law_2926 ?_
    refine sw_i2l C dL_law_2928 ?_
    refine sw_lcmp C dL_law_2929 ?_
    refine sw_if_eq C 2935 dL_law_2930 (by decide) (fun _ => ?_) (fun c => absurd (by rw [eJ]; exact zCmp_self) c)
    refine sw_goto C 2938 dL_law_2935 (by decide) ?_
    exact sw_fg (K _ _ _ _ _ (by omega) (by omega) H2)
