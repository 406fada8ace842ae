/-! the law's cases, 1 -/
set_option maxRecDepth 100000 in
set_option maxHeartbeats 4000000 in
theorem cs_0 {G : zG} {X : zX} {L : Nat} {xs : Nat → Int32} {a b i : Nat} {S : zS} {J : Int64} {E : UInt64} (W : zLw G X L xs) (H : zInv S S) (hi : i + 3 ≤ L) (hL : L ≤ 1536) (ha : a + 25 ≤ 603072) (hb : b + 850 ≤ 7211114) (K : zGo G X a b i) : SN G X a b 268 [some (.ref 400), some (.ref 0), some (.ref 12), some (.ref 23), some (.ref 24), some (zi i), none, none, none] [] S J E := by
  obtain ⟨C, Z, NC, hl, hG⟩ := W
  obtain ⟨x, hx, ex⟩ := zInt (xs (i + 1))
  obtain ⟨y, hy, ey⟩ := zInt (xs (i + 2))
  obtain ⟨k, w, d1, d2, mc, ms, S1, S2, J1, ⟨h1, h2, h3, h4⟩, c1, c2, hk, hk5, hJ, H2⟩ := op_addListener hl (G := G) (J := J) (E := E) H hx hy
  refine sw_aload_1 C dL_law_268 ?_
  refine sw_aload_0 C dL_law_269 ?_
  refine sw_iload_5 C dL_law_270 ?_
  refine sn_iconst C 1 (by decide) dL_law_272 ?_
  refine sn_iadd C dL_law_273 ?_
  refine sw_sld C Z (by omega) hL ex dL_law_274 ?_
  refine sw_aload_0 C dL_law_275 ?_
  refine sw_iload_5 C dL_law_276 ?_
  refine sn_iconst C 2 (by decide) dL_law_278 ?_
  refine sn_iadd C dL_law_279 ?_
  refine sw_sld C Z (by omega) hL ey dL_law_280 ?_
  refine sw_aload_3 C dL_law_281 ?_
  refine sw_callW (as := [.ref 0, zi x, zi y, .ref 23]) (st := []) (n := 4) C (fun s e => e ▸ NC) wL_addListener rfl iL_law ⟨by decide, by decide⟩ (by decide) (by decide) sL_addListener kL_158 dL_law_282 rfl (Nat.le_of_ble_eq_true rfl) c1 (by omega) (by omega) (by omega) ?_
  refine sw_istore_6 C rfl dL_law_285 ?_
  refine sw_aload_2 C dL_law_287 ?_
  refine sw_aload_0 C dL_law_288 ?_
  refine sw_iload_5 C dL_law_289 ?_
  refine sn_iconst C 1 (by decide) dL_law_291 ?_
  refine sn_iadd C dL_law_292 ?_
  refine sw_sld C Z (by omega) hL ex dL_law_293 ?_
  refine sw_aload_0 C dL_law_294 ?_
  refine sw_iload_5 C dL_law_295 ?_
  refine sn_iconst C 2 (by decide) dL_law_297 ?_
  refine sn_iadd C dL_law_298 ?_
  refine sw_sld C Z (by omega) hL ey dL_law_299 ?_
  refine sn_cV2r C vX6_addListener lL_163 rfl (by decide) rfl rfl dL_law_300 (Nat.le_of_ble_eq_true rfl) c2 (by omega) (by omega) (by omega) ?_
  refine sw_istore_7 C rfl dL_law_303 ?_
  refine sw_aload_2 C dL_law_305 ?_
  refine sn_cV0r C vX6_thrown lL_164 rfl (by decide) rfl rfl dL_law_306 (Nat.le_of_ble_eq_true rfl) (c_X6_thrown hl) (by omega) (by omega) (by omega) ?_
  refine sw_iload_6 C dL_law_309 ?_
  refine sn_icmp_eq C 316 (by omega) (by omega) dL_law_311 (by decide) (fun c => ?_) (fun c => absurd hk c)
  refine sw_iload_6 C dL_law_316 ?_
  refine sn_if_ne C 333 (by omega) dL_law_318 (by decide) (fun c1 => ?_) (fun c0 => ?_)
  · refine sw_goto C 2938 dL_law_333 (by decide) ?_
    exact sw_fg (K _ _ _ _ _ (by omega) (by omega) H2)
  · have eJ := hJ c0
    refine sw_aload_3 C dL_law_321 ?_
    refine sn_iconst C 0 (by decide) dL_law_322 ?_
    refine sw_lald C dL_law_323 ?_
    refine sw_iload_7 C dL_law_324 ?_
    refine sw_i2l C dL_law_326 ?_
    refine sw_lcmp C dL_law_327 ?_
    refine sw_if_eq C 333 dL_law_328 (by decide) (fun _ => ?_) (fun c => absurd (by rw [eJ]; exact zCmp_self) c)
    refine sw_goto C 2938 dL_law_333 (by decide) ?_
    exact sw_fg (K _ _ _ _ _ (by omega) (by omega) H2)
set_option maxRecDepth 100000 in
set_option maxHeartbeats 4000000 in
theorem cs_1 {G : zG} {X : zX} {L : Nat} {xs : Nat → Int32} {a b i : Nat} {S : zS} {J : Int64} {E : UInt64} (W : zLw G X L xs) (H : zInv S S) (hi : i + 3 ≤ L) (hL : L ≤ 1536) (ha : a + 25 ≤ 603072) (hb : b + 850 ≤ 7211114) (K : zGo G X a b i) : SN G X a b 336 [some (.ref 400), some (.ref 0), some (.ref 12), some (.ref 23), some (.ref 24), some (zi i), none, none, none] [] S J E := by
  obtain ⟨C, Z, NC, hl, hG⟩ := W
  obtain ⟨x, hx, ex⟩ := zInt (xs (i + 1))
  obtain ⟨y, hy, ey⟩ := zInt (xs (i + 2))
  obtain ⟨k, w, d1, d2, mc, ms, S1, S2, J1, ⟨h1, h2, h3, h4⟩, c1, c2, hk, hk5, hJ, H2⟩ := op_link hl (G := G) (J := J) (E := E) H hx hy
  refine sw_aload_1 C dL_law_336 ?_
  refine sw_aload_0 C dL_law_337 ?_
  refine sw_iload_5 C dL_law_338 ?_
  refine sn_iconst C 1 (by decide) dL_law_340 ?_
  refine sn_iadd C dL_law_341 ?_
  refine sw_sld C Z (by omega) hL ex dL_law_342 ?_
  refine sw_aload_0 C dL_law_343 ?_
  refine sw_iload_5 C dL_law_344 ?_
  refine sn_iconst C 2 (by decide) dL_law_346 ?_
  refine sn_iadd C dL_law_347 ?_
  refine sw_sld C Z (by omega) hL ey dL_law_348 ?_
  refine sw_aload_3 C dL_law_349 ?_
  refine sw_callW (as := [.ref 0, zi x, zi y, .ref 23]) (st := []) (n := 4) C (fun s e => e ▸ NC) wL_link rfl iL_law ⟨by decide, by decide⟩ (by decide) (by decide) sL_link kL_167 dL_law_350 rfl (Nat.le_of_ble_eq_true rfl) c1 (by omega) (by omega) (by omega) ?_
  refine sw_istore_6 C rfl dL_law_353 ?_
  refine sw_aload_2 C dL_law_355 ?_
  refine sw_aload_0 C dL_law_356 ?_
  refine sw_iload_5 C dL_law_357 ?_
  refine sn_iconst C 1 (by decide) dL_law_359 ?_
  refine sn_iadd C dL_law_360 ?_
  refine sw_sld C Z (by omega) hL ex dL_law_361 ?_
  refine sw_aload_0 C dL_law_362 ?_
  refine sw_iload_5 C dL_law_363 ?_
  refine sn_iconst C 2 (by decide) dL_law_365 ?_
  refine sn_iadd C dL_law_366 ?_
  refine sw_sld C Z (by omega) hL ey dL_law_367 ?_
  refine sn_cV2r C vX6_link lL_169 rfl (by decide) rfl rfl dL_law_368 (Nat.le_of_ble_eq_true rfl) c2 (by omega) (by omega) (by omega) ?_
  refine sw_istore_7 C rfl dL_law_371 ?_
  refine sw_aload_2 C dL_law_373 ?_
  refine sn_cV0r C vX6_thrown lL_164 rfl (by decide) rfl rfl dL_law_374 (Nat.le_of_ble_eq_true rfl) (c_X6_thrown hl) (by omega) (by omega) (by omega) ?_
  refine sw_iload_6 C dL_law_377 ?_
  refine sn_icmp_eq C 384 (by omega) (by omega) dL_law_379 (by decide) (fun c => ?_) (fun c => absurd hk c)
  refine sw_iload_6 C dL_law_384 ?_
  refine sn_if_ne C 401 (by omega) dL_law_386 (by decide) (fun c1 => ?_) (fun c0 => ?_)
  · refine sw_goto C 2938 dL_law_401 (by decide) ?_
    exact sw_fg (K _ _ _ _ _ (by omega) (by omega) H2)
  · have eJ := hJ c0
    refine sw_aload_3 C dL_law_389 ?_
    refine sn_iconst C 0 (by decide) dL_law_390 ?_
    refine sw_lald C dL_law_391 ?_
    refine sw_iload_7 C dL_law_392 ?_
    refine sw_i2l C dL_law_394 ?_
    refine sw_lcmp C dL_law_395 ?_
    refine sw_if_eq C 401 dL_law_396 (by decide) (fun _ => ?_) (fun c => absurd (by rw [eJ]; exact zCmp_self) c)
    refine sw_goto C 2938 dL_law_401 (by decide) ?_
    exact sw_fg (K _ _ _ _ _ (by omega) (by omega) H2)
set_option maxRecDepth 100000 in
set_option maxHeartbeats 4000000 in
theorem cs_2 {G : zG} {X : zX} {L : Nat} {xs : Nat → Int32} {a b i : Nat} {S : zS} {J : Int64} {E : UInt64} (W : zLw G X L xs) (H : zInv S S) (hi : i + 3 ≤ L) (hL : L ≤ 1536) (ha : a + 25 ≤ 603072) (hb : b + 850 ≤ 7211114) (K : zGo G X a b i) : SN G X a b 404 [some (.ref 400), some (.ref 0), some (.ref 12), some (.ref 23), some (.ref 24), some (zi i), none, none, none] [] S J E := by
  obtain ⟨C, Z, NC, hl, hG⟩ := W
  obtain ⟨x, hx, ex⟩ := zInt (xs (i + 1))
  obtain ⟨y, hy, ey⟩ := zInt (xs (i + 2))
  obtain ⟨k, w, d1, d2, mc, ms, S1, S2, J1, ⟨h1, h2, h3, h4⟩, c1, c2, hk, hk5, hJ, H2⟩ := op_unlink hl (G := G) (J := J) (E := E) H hx hy
  refine sw_aload_1 C dL_law_404 ?_
  refine sw_aload_0 C dL_law_405 ?_
  refine sw_iload_5 C dL_law_406 ?_
  refine sn_iconst C 1 (by decide) dL_law_408 ?_
  refine sn_iadd C dL_law_409 ?_
  refine sw_sld C Z (by omega) hL ex dL_law_410 ?_
  refine sw_aload_0 C dL_law_411 ?_
  refine sw_iload_5 C dL_law_412 ?_
  refine sn_iconst C 2 (by decide) dL_law_414 ?_
  refine sn_iadd C dL_law_415 ?_
  refine sw_sld C Z (by omega) hL ey dL_law_416 ?_
  refine sw_aload_3 C dL_law_417 ?_
  refine sw_callW (as := [.ref 0, zi x, zi y, .ref 23]) (st := []) (n := 4) C (fun s e => e ▸ NC) wL_unlink rfl iL_law ⟨by decide, by decide⟩ (by decide) (by decide) sL_unlink kL_170 dL_law_418 rfl (Nat.le_of_ble_eq_true rfl) c1 (by omega) (by omega) (by omega) ?_
  refine sw_istore_6 C rfl dL_law_421 ?_
  refine sw_aload_2 C dL_law_423 ?_
  refine sw_aload_0 C dL_law_424 ?_
  refine sw_iload_5 C dL_law_425 ?_
  refine sn_iconst C 1 (by decide) dL_law_427 ?_
  refine sn_iadd C dL_law_428 ?_
  refine sw_sld C Z (by omega) hL ex dL_law_429 ?_
  refine sw_aload_0 C dL_law_430 ?_
  refine sw_iload_5 C dL_law_431 ?_
  refine sn_iconst C 2 (by decide) dL_law_433 ?_
  refine sn_iadd C dL_law_434 ?_
  refine sw_sld C Z (by omega) hL ey dL_law_435 ?_
  refine sn_cV2r C vX6_unlink lL_172 rfl (by decide) rfl rfl dL_law_436 (Nat.le_of_ble_eq_true rfl) c2 (by omega) (by omega) (by omega) ?_
  refine sw_istore_7 C rfl dL_law_439 ?_
  refine sw_aload_2 C dL_law_441 ?_
  refine sn_cV0r C vX6_thrown lL_164 rfl (by decide) rfl rfl dL_law_442 (Nat.le_of_ble_eq_true rfl) (c_X6_thrown hl) (by omega) (by omega) (by omega) ?_
  refine sw_iload_6 C dL_law_445 ?_
  refine sn_icmp_eq C 452 (by omega) (by omega) dL_law_447 (by decide) (fun c => ?_) (fun c => absurd hk c)
  refine sw_iload_6 C dL_law_452 ?_
  refine sn_if_ne C 469 (by omega) dL_law_454 (by decide) (fun c1 => ?_) (fun c0 => ?_)
  · refine sw_goto C 2938 dL_law_469 (by decide) ?_
    exact sw_fg (K _ _ _ _ _ (by omega) (by omega) H2)
  · have eJ := hJ c0
    refine sw_aload_3 C dL_law_457 ?_
    refine sn_iconst C 0 (by decide) dL_law_458 ?_
    refine sw_lald C dL_law_459 ?_
    refine sw_iload_7 C dL_law_460 ?_
    refine sw_i2l C dL_law_462 ?_
    refine sw_lcmp C dL_law_463 ?_
    refine sw_if_eq C 469 dL_law_464 (by decide) (fun _ => ?_) (fun c => absurd (by rw [eJ]; exact zCmp_self) c)
    refine sw_goto C 2938 dL_law_469 (by decide) ?_
    exact sw_fg (K _ _ _ _ _ (by omega) (by omega) H2)
set_option maxRecDepth 100000 in
set_option maxHeartbeats 4000000 in
theorem cs_3 {G : zG} {X : zX} {L : Nat} {xs : Nat → Int32} {a b i : Nat} {S : zS} {J : Int64} {E : UInt64} (W : zLw G X L xs) (H : zInv S S) (hi : i + 3 ≤ L) (hL : L ≤ 1536) (ha : a + 25 ≤ 603072) (hb : b + 850 ≤ 7211114) (K : zGo G X a b i) : SN G X a b 472 [some (.ref 400), some (.ref 0), some (.ref 12), some (.ref 23), some (.ref 24), some (zi i), none, none, none] [] S J E := by
  obtain ⟨C, Z, NC, hl, hG⟩ := W
  obtain ⟨x, hx, ex⟩ := zInt (xs (i + 1))
  obtain ⟨y, hy, ey⟩ := zInt (xs (i + 2))
  obtain ⟨k, w, d1, d2, mc, ms, S1, S2, J1, ⟨h1, h2, h3, h4⟩, c1, c2, hk, hk5, hJ, H2⟩ := op_moveListener hl (G := G) (J := J) (E := E) H hx hy
  refine sw_aload_1 C dL_law_472 ?_
  refine sw_aload_0 C dL_law_473 ?_
  refine sw_iload_5 C dL_law_474 ?_
  refine sn_iconst C 1 (by decide) dL_law_476 ?_
  refine sn_iadd C dL_law_477 ?_
  refine sw_sld C Z (by omega) hL ex dL_law_478 ?_
  refine sw_aload_0 C dL_law_479 ?_
  refine sw_iload_5 C dL_law_480 ?_
  refine sn_iconst C 2 (by decide) dL_law_482 ?_
  refine sn_iadd C dL_law_483 ?_
  refine sw_sld C Z (by omega) hL ey dL_law_484 ?_
  refine sw_aload_3 C dL_law_485 ?_
  refine sw_callW (as := [.ref 0, zi x, zi y, .ref 23]) (st := []) (n := 4) C (fun s e => e ▸ NC) wL_moveListener rfl iL_law ⟨by decide, by decide⟩ (by decide) (by decide) sL_moveListener kL_173 dL_law_486 rfl (Nat.le_of_ble_eq_true rfl) c1 (by omega) (by omega) (by omega) ?_
  refine sw_istore_6 C rfl dL_law_489 ?_
  refine sw_aload_2 C dL_law_491 ?_
  refine sw_aload_0 C dL_law_492 ?_
  refine sw_iload_5 C dL_law_493 ?_
  refine sn_iconst C 1 (by decide) dL_law_495 ?_
  refine sn_iadd C dL_law_496 ?_
  refine sw_sld C Z (by omega) hL ex dL_law_497 ?_
  refine sw_aload_0 C dL_law_498 ?_
  refine sw_iload_5 C dL_law_499 ?_
  refine sn_iconst C 2 (by decide) dL_law_501 ?_
  refine sn_iadd C dL_law_502 ?_
  refine sw_sld C Z (by omega) hL ey dL_law_503 ?_
  refine sn_cV2r C vX6_moveListener lL_175 rfl (by decide) rfl rfl dL_law_504 (Nat.le_of_ble_eq_true rfl) c2 (by omega) (by omega) (by omega) ?_
  refine sw_istore_7 C rfl dL_law_507 ?_
  refine sw_aload_2 C dL_law_509 ?_
  refine sn_cV0r C vX6_thrown lL_164 rfl (by decide) rfl rfl dL_law_510 (Nat.le_of_ble_eq_true rfl) (c_X6_thrown hl) (by omega) (by omega) (by omega) ?_
  refine sw_iload_6 C dL_law_513 ?_
  refine sn_icmp_eq C 520 (by omega) (by omega) dL_law_515 (by decide) (fun c => ?_) (fun c => absurd hk c)
  refine sw_iload_6 C dL_law_520 ?_
  refine sn_if_ne C 537 (by omega) dL_law_522 (by decide) (fun c1 => ?_) (fun c0 => ?_)
  · refine sw_goto C 2938 dL_law_537 (by decide) ?_
    exact sw_fg (K _ _ _ _ _ (by omega) (by omega) H2)
  · have eJ := hJ c0
    refine sw_aload_3 C dL_law_525 ?_
    refine sn_iconst C 0 (by decide) dL_law_526 ?_
    refine sw_lald C dL_law_527 ?_
    refine sw_iload_7 C dL_law_528 ?_
    refine sw_i2l C dL_law_530 ?_
    refine sw_lcmp C dL_law_531 ?_
    refine sw_if_eq C 537 dL_law_532 (by decide) (fun _ => ?_) (fun c => absurd (by rw [eJ]; exact zCmp_self) c)
    refine sw_goto C 2938 dL_law_537 (by decide) ?_
    exact sw_fg (K _ _ _ _ _ (by omega) (by omega) H2)
set_option maxRecDepth 100000 in
set_option maxHeartbeats 4000000 in
theorem cs_4 {G : zG} {X : zX} {L : Nat} {xs : Nat → Int32} {a b i : Nat} {S : zS} {J : Int64} {E : UInt64} (W : zLw G X L xs) (H : zInv S S) (hi : i + 3 ≤ L) (hL : L ≤ 1536) (ha : a + 25 ≤ 603072) (hb : b + 850 ≤ 7211114) (K : zGo G X a b i) : SN G X a b 540 [some (.ref 400), some (.ref 0), some (.ref 12), some (.ref 23), some (.ref 24), some (zi i), none, none, none] [] S J E := by
  obtain ⟨C, Z, NC, hl, hG⟩ := W
  obtain ⟨x, hx, ex⟩ := zInt (xs (i + 1))
  obtain ⟨y, hy, ey⟩ := zInt (xs (i + 2))
  obtain ⟨k, w, d1, d2, mc, ms, S1, S2, J1, ⟨h1, h2, h3, h4⟩, c1, c2, hk, hk5, hJ, H2⟩ := op_startRumour hl (G := G) (J := J) (E := E) H hx hy
  refine sw_aload_1 C dL_law_540 ?_
  refine sw_aload_0 C dL_law_541 ?_
  refine sw_iload_5 C dL_law_542 ?_
  refine sn_iconst C 1 (by decide) dL_law_544 ?_
  refine sn_iadd C dL_law_545 ?_
  refine sw_sld C Z (by omega) hL ex dL_law_546 ?_
  refine sw_aload_0 C dL_law_547 ?_
  refine sw_iload_5 C dL_law_548 ?_
  refine sn_iconst C 2 (by decide) dL_law_550 ?_
  refine sn_iadd C dL_law_551 ?_
  refine sw_sld C Z (by omega) hL ey dL_law_552 ?_
  refine sw_aload_3 C dL_law_553 ?_
  refine sw_callW (as := [.ref 0, zi x, zi y, .ref 23]) (st := []) (n := 4) C (fun s e => e ▸ NC) wL_startRumour rfl iL_law ⟨by decide, by decide⟩ (by decide) (by decide) sL_startRumour kL_176 dL_law_554 rfl (Nat.le_of_ble_eq_true rfl) c1 (by omega) (by omega) (by omega) ?_
  refine sw_istore_6 C rfl dL_law_557 ?_
  refine sw_aload_2 C dL_law_559 ?_
  refine sw_aload_0 C dL_law_560 ?_
  refine sw_iload_5 C dL_law_561 ?_
  refine sn_iconst C 1 (by decide) dL_law_563 ?_
  refine sn_iadd C dL_law_564 ?_
  refine sw_sld C Z (by omega) hL ex dL_law_565 ?_
  refine sw_aload_0 C dL_law_566 ?_
  refine sw_iload_5 C dL_law_567 ?_
  refine sn_iconst C 2 (by decide) dL_law_569 ?_
  refine sn_iadd C dL_law_570 ?_
  refine sw_sld C Z (by omega) hL ey dL_law_571 ?_
  refine sn_cV2r C vX6_startRumour lL_178 rfl (by decide) rfl rfl dL_law_572 (Nat.le_of_ble_eq_true rfl) c2 (by omega) (by omega) (by omega) ?_
  refine sw_istore_7 C rfl dL_law_575 ?_
  refine sw_aload_2 C dL_law_577 ?_
  refine sn_cV0r C vX6_thrown lL_164 rfl (by decide) rfl rfl dL_law_578 (Nat.le_of_ble_eq_true rfl) (c_X6_thrown hl) (by omega) (by omega) (by omega) ?_
  refine sw_iload_6 C dL_law_581 ?_
  refine sn_icmp_eq C 588 (by omega) (by omega) dL_law_583 (by decide) (fun c => ?_) (fun c => absurd hk c)
  refine sw_iload_6 C dL_law_588 ?_
  refine sn_if_ne C 605 (by omega) dL_law_590 (by decide) (fun c1 => ?_) (fun c0 => ?_)
  · refine sw_goto C 2938 dL_law_605 (by decide) ?_
    exact sw_fg (K _ _ _ _ _ (by omega) (by omega) H2)
  · have eJ := hJ c0
    refine sw_aload_3 C dL_law_593 ?_
    refine sn_iconst C 0 (by decide) dL_law_594 ?_
    refine sw_lald C dL_law_595 ?_
    refine sw_iload_7 C dL_law_596 ?_
    refine sw_i2l C dL_law_598 ?_
    refine sw_lcmp C dL_law_599 ?_
    refine sw_if_eq C 605 dL_law_600 (by decide) (fun _ => ?_) (fun c => absurd (by rw [eJ]; exact zCmp_self) c)
    refine sw_goto C 2938 dL_law_605 (by decide) ?_
    exact sw_fg (K _ _ _ _ _ (by omega) (by omega) H2)
set_option maxRecDepth 100000 in
set_option maxHeartbeats 4000000 in
theorem cs_5 {G : zG} {X : zX} {L : Nat} {xs : Nat → Int32} {a b i : Nat} {S : zS} {J : Int64} {E : UInt64} (W : zLw G X L xs) (H : zInv S S) (hi : i + 3 ≤ L) (hL : L ≤ 1536) (ha : a + 25 ≤ 603072) (hb : b + 850 ≤ 7211114) (K : zGo G X a b i) : SN G X a b 608 [some (.ref 400), some (.ref 0), some (.ref 12), some (.ref 23), some (.ref 24), some (zi i), none, none, none] [] S J E := by
  obtain ⟨C, Z, NC, hl, hG⟩ := W
  obtain ⟨x, hx, ex⟩ := zInt (xs (i + 1))
  obtain ⟨y, hy, ey⟩ := zInt (xs (i + 2))
  obtain ⟨k, d1, d2, mc, ms, w, S1, S2, J1, ⟨h1, h2, h3, h4⟩, c1, c2, hk, hk5, hJ, H2⟩ := op_check hl (G := G) (J := J) (E := E) H hx hy
  refine sw_aload_1 C dL_law_608 ?_
  refine sw_aload_0 C dL_law_609 ?_
  refine sw_iload_5 C dL_law_610 ?_
  refine sn_iconst C 1 (by decide) dL_law_612 ?_
  refine sn_iadd C dL_law_613 ?_
  refine sw_sld C Z (by omega) hL ex dL_law_614 ?_
  refine sw_aload_0 C dL_law_615 ?_
  refine sw_iload_5 C dL_law_616 ?_
  refine sn_iconst C 2 (by decide) dL_law_618 ?_
  refine sn_iadd C dL_law_619 ?_
  refine sw_sld C Z (by omega) hL ey dL_law_620 ?_
  refine sw_aload_3 C dL_law_621 ?_
  refine sw_callW (as := [.ref 0, zi x, zi y, .ref 23]) (st := []) (n := 4) C (fun s e => e ▸ NC) wL_check rfl iL_law ⟨by decide, by decide⟩ (by decide) (by decide) sL_check kL_179 dL_law_622 rfl (Nat.le_of_ble_eq_true rfl) c1 (by omega) (by omega) (by omega) ?_
  refine sw_istore_6 C rfl dL_law_625 ?_
  refine sw_aload_2 C dL_law_627 ?_
  refine sw_aload_0 C dL_law_628 ?_
  refine sw_iload_5 C dL_law_629 ?_
  refine sn_iconst C 1 (by decide) dL_law_631 ?_
  refine sn_iadd C dL_law_632 ?_
  refine sw_sld C Z (by omega) hL ex dL_law_633 ?_
  refine sw_aload_0 C dL_law_634 ?_
  refine sw_iload_5 C dL_law_635 ?_
  refine sn_iconst C 2 (by decide) dL_law_637 ?_
  refine sn_iadd C dL_law_638 ?_
  refine sw_sld C Z (by omega) hL ey dL_law_639 ?_
  refine sn_cV2r C vX6_check lL_181 rfl (by decide) rfl rfl dL_law_640 (Nat.le_of_ble_eq_true rfl) c2 (by omega) (by omega) (by omega) ?_
  refine sw_istore_7 C rfl dL_law_643 ?_
  refine sw_aload_2 C dL_law_645 ?_
  refine sn_cV0r C vX6_thrown lL_164 rfl (by decide) rfl rfl dL_law_646 (Nat.le_of_ble_eq_true rfl) (c_X6_thrown hl) (by omega) (by omega) (by omega) ?_
  refine sw_iload_6 C dL_law_649 ?_
  refine sn_icmp_eq C 656 (by omega) (by omega) dL_law_651 (by decide) (fun c => ?_) (fun c => absurd hk c)
  refine sw_iload_6 C dL_law_656 ?_
  refine sn_if_ne C 680 (by omega) dL_law_658 (by decide) (fun c1 => ?_) (fun c0 => ?_)
  · refine sw_goto C 2938 dL_law_680 (by decide) ?_
    exact sw_fg (K _ _ _ _ _ (by omega) (by omega) H2)
  · have eJ := hJ c0
    refine sw_aload_3 C dL_law_661 ?_
    refine sn_iconst C 0 (by decide) dL_law_662 ?_
    refine sw_lald C dL_law_663 ?_
    refine sw_iload_7 C dL_law_664 ?_
    refine sn_if_eqB C 673 dL_law_666 (by decide) (fun cw => ?_) (fun cw => ?_)
    · refine sw_lconst C (v := 0) (by decide) dL_law_673 ?_
      refine sw_lcmp C dL_law_674 ?_
      refine sw_if_eq C 680 dL_law_675 (by decide) (fun _ => ?_) (fun c => absurd (by rw [eJ, cw]; exact zCmp_self) c)
      refine sw_goto C 2938 dL_law_680 (by decide) ?_
      exact sw_fg (K _ _ _ _ _ (by omega) (by omega) H2)
    · refine sw_lconst C (v := 1) (by decide) dL_law_669 ?_
      refine sw_goto C 674 dL_law_670 (by decide) ?_
      refine sw_lcmp C dL_law_674 ?_
      refine sw_if_eq C 680 dL_law_675 (by decide) (fun _ => ?_) (fun c => absurd (by rw [eJ, cw]; exact zCmp_self) c)
      refine sw_goto C 2938 dL_law_680 (by decide) ?_
      exact sw_fg (K _ _ _ _ _ (by omega) (by omega) H2)
set_option maxRecDepth 100000 in
set_option maxHeartbeats 4000000 in
theorem cs_6 {G : zG} {X : zX} {L : Nat} {xs : Nat → Int32} {a b i : Nat} {S : zS} {J : Int64} {E : UInt64} (W : zLw G X L xs) (H : zInv S S) (hi : i + 3 ≤ L) (hL : L ≤ 1536) (ha : a + 25 ≤ 603072) (hb : b + 850 ≤ 7211114) (K : zGo G X a b i) : SN G X a b 683 [some (.ref 400), some (.ref 0), some (.ref 12), some (.ref 23), some (.ref 24), some (zi i), none, none, none] [] S J E := by
  obtain ⟨C, Z, NC, hl, hG⟩ := W
  obtain ⟨x, hx, ex⟩ := zInt (xs (i + 1))
  obtain ⟨k, w, d1, d2, mc, ms, S1, S2, J1, ⟨h1, h2, h3, h4⟩, c1, c2, hk, hk5, hJ, H2⟩ := op_deny hl (G := G) (J := J) (E := E) H hx
  refine sw_aload_1 C dL_law_683 ?_
  refine sw_aload_0 C dL_law_684 ?_
  refine sw_iload_5 C dL_law_685 ?_
  refine sn_iconst C 1 (by decide) dL_law_687 ?_
  refine sn_iadd C dL_law_688 ?_
  refine sw_sld C Z (by omega) hL ex dL_law_689 ?_
  refine sw_aload_3 C dL_law_690 ?_
  refine sw_callW (as := [.ref 0, zi x, .ref 23]) (st := []) (n := 3) C (fun s e => e ▸ NC) wL_deny rfl iL_law ⟨by decide, by decide⟩ (by decide) (by decide) sL_deny kL_182 dL_law_691 rfl (Nat.le_of_ble_eq_true rfl) c1 (by omega) (by omega) (by omega) ?_
  refine sw_istore_6 C rfl dL_law_694 ?_
  refine sw_aload_2 C dL_law_696 ?_
  refine sw_aload_0 C dL_law_697 ?_
  refine sw_iload_5 C dL_law_698 ?_
  refine sn_iconst C 1 (by decide) dL_law_700 ?_
  refine sn_iadd C dL_law_701 ?_
  refine sw_sld C Z (by omega) hL ex dL_law_702 ?_
  refine sn_cV1r C vX6_deny lL_185 rfl (by decide) rfl rfl dL_law_703 (Nat.le_of_ble_eq_true rfl) c2 (by omega) (by omega) (by omega) ?_
  refine sw_istore_7 C rfl dL_law_706 ?_
  refine sw_aload_2 C dL_law_708 ?_
  refine sn_cV0r C vX6_thrown lL_164 rfl (by decide) rfl rfl dL_law_709 (Nat.le_of_ble_eq_true rfl) (c_X6_thrown hl) (by omega) (by omega) (by omega) ?_
  refine sw_iload_6 C dL_law_712 ?_
  refine sn_icmp_eq C 719 (by omega) (by omega) dL_law_714 (by decide) (fun c => ?_) (fun c => absurd hk c)
  refine sw_iload_6 C dL_law_719 ?_
  refine sn_if_ne C 736 (by omega) dL_law_721 (by decide) (fun c1 => ?_) (fun c0 => ?_)
  · refine sw_goto C 2938 dL_law_736 (by decide) ?_
    exact sw_fg (K _ _ _ _ _ (by omega) (by omega) H2)
  · have eJ := hJ c0
    refine sw_aload_3 C dL_law_724 ?_
    refine sn_iconst C 0 (by decide) dL_law_725 ?_
    refine sw_lald C dL_law_726 ?_
    refine sw_iload_7 C dL_law_727 ?_
    refine sw_i2l C dL_law_729 ?_
    refine sw_lcmp C dL_law_730 ?_
    refine sw_if_eq C 736 dL_law_731 (by decide) (fun _ => ?_) (fun c => absurd (by rw [eJ]; exact zCmp_self) c)
    refine sw_goto C 2938 dL_law_736 (by decide) ?_
    exact sw_fg (K _ _ _ _ _ (by omega) (by omega) H2)
set_option maxRecDepth 100000 in
set_option maxHeartbeats 4000000 in
theorem cs_7 {G : zG} {X : zX} {L : Nat} {xs : Nat → Int32} {a b i : Nat} {S : zS} {J : Int64} {E : UInt64} (W : zLw G X L xs) (H : zInv S S) (hi : i + 3 ≤ L) (hL : L ≤ 1536) (ha : a + 25 ≤ 603072) (hb : b + 850 ≤ 7211114) (K : zGo G X a b i) : SN G X a b 739 [some (.ref 400), some (.ref 0), some (.ref 12), some (.ref 23), some (.ref 24), some (zi i), none, none, none] [] S J E := by
  obtain ⟨C, Z, NC, hl, hG⟩ := W
  obtain ⟨x, hx, ex⟩ := zInt (xs (i + 1))
  obtain ⟨y, hy, ey⟩ := zInt (xs (i + 2))
  obtain ⟨k, w, d1, d2, mc, ms, S1, S2, J1, ⟨h1, h2, h3, h4⟩, c1, c2, hk, hk5, hJ, H2⟩ := op_answer hl (G := G) (J := J) (E := E) H hx hy
  refine sw_aload_1 C dL_law_739 ?_
  refine sw_aload_0 C dL_law_740 ?_
  refine sw_iload_5 C dL_law_741 ?_
  refine sn_iconst C 1 (by decide) dL_law_743 ?_
  refine sn_iadd C dL_law_744 ?_
  refine sw_sld C Z (by omega) hL ex dL_law_745 ?_
  refine sw_aload_0 C dL_law_746 ?_
  refine sw_iload_5 C dL_law_747 ?_
  refine sn_iconst C 2 (by decide) dL_law_749 ?_
  refine sn_iadd C dL_law_750 ?_
  refine sw_sld C Z (by omega) hL ey dL_law_751 ?_
  refine sw_aload_3 C dL_law_752 ?_
  refine sw_callW (as := [.ref 0, zi x, zi y, .ref 23]) (st := []) (n := 4) C (fun s e => e ▸ NC) wL_answer rfl iL_law ⟨by decide, by decide⟩ (by decide) (by decide) sL_answer kL_186 dL_law_753 rfl (Nat.le_of_ble_eq_true rfl) c1 (by omega) (by omega) (by omega) ?_
  refine sw_istore_6 C rfl dL_law_756 ?_
  refine sw_aload_2 C dL_law_758 ?_
  refine sw_aload_0 C dL_law_759 ?_
  refine sw_iload_5 C dL_law_760 ?_
  refine sn_iconst C 1 (by decide) dL_law_762 ?_
  refine sn_iadd C dL_law_763 ?_
  refine sw_sld C Z (by omega) hL ex dL_law_764 ?_
  refine sw_aload_0 C dL_law_765 ?_
  refine sw_iload_5 C dL_law_766 ?_
  refine sn_iconst C 2 (by decide) dL_law_768 ?_
  refine sn_iadd C dL_law_769 ?_
  refine sw_sld C Z (by omega) hL ey dL_law_770 ?_
  refine sn_cV2r C vX6_answer lL_188 rfl (by decide) rfl rfl dL_law_771 (Nat.le_of_ble_eq_true rfl) c2 (by omega) (by omega) (by omega) ?_
  refine sw_istore_7 C rfl dL_law_774 ?_
  refine sw_aload_2 C dL_law_776 ?_
  refine sn_cV0r C vX6_thrown lL_164 rfl (by decide) rfl rfl dL_law_777 (Nat.le_of_ble_eq_true rfl) (c_X6_thrown hl) (by omega) (by omega) (by omega) ?_
  refine sw_iload_6 C dL_law_780 ?_
  refine sn_icmp_eq C 787 (by omega) (by omega) dL_law_782 (by decide) (fun c => ?_) (fun c => absurd hk c)
  refine sw_iload_6 C dL_law_787 ?_
  refine sn_if_ne C 804 (by omega) dL_law_789 (by decide) (fun c1 => ?_) (fun c0 => ?_)
  · refine sw_goto C 2938 dL_law_804 (by decide) ?_
    exact sw_fg (K _ _ _ _ _ (by omega) (by omega) H2)
  · have eJ := hJ c0
    refine sw_aload_3 C dL_law_792 ?_
    refine sn_iconst C 0 (by decide) dL_law_793 ?_
    refine sw_lald C dL_law_794 ?_
    refine sw_iload_7 C dL_law_795 ?_
    refine sw_i2l C dL_law_797 ?_
    refine sw_lcmp C dL_law_798 ?_
    refine sw_if_eq C 804 dL_law_799 (by decide) (fun _ => ?_) (fun c => absurd (by rw [eJ]; exact zCmp_self) c)
    refine sw_goto C 2938 dL_law_804 (by decide) ?_
    exact sw_fg (K _ _ _ _ _ (by omega) (by omega) H2)
set_option maxRecDepth 100000 in
set_option maxHeartbeats 4000000 in
theorem cs_8 {G : zG} {X : zX} {L : Nat} {xs : Nat → Int32} {a b i : Nat} {S : zS} {J : Int64} {E : UInt64} (W : zLw G X L xs) (H : zInv S S) (hi : i + 3 ≤ L) (hL : L ≤ 1536) (ha : a + 25 ≤ 603072) (hb : b + 850 ≤ 7211114) (K : zGo G X a b i) : SN G X a b 807 [some (.ref 400), some (.ref 0), some (.ref 12), some (.ref 23), some (.ref 24), some (zi i), none, none, none] [] S J E := by
  obtain ⟨C, Z, NC, hl, hG⟩ := W
  obtain ⟨x, hx, ex⟩ := zInt (xs (i + 1))
  obtain ⟨k, w, d1, d2, mc, ms, S1, S2, J1, ⟨h1, h2, h3, h4⟩, c1, c2, hk, hk5, hJ, H2⟩ := op_advance hl (G := G) (J := J) (E := E) H hx
  refine sw_aload_1 C dL_law_807 ?_
  refine sw_aload_0 C dL_law_808 ?_
  refine sw_iload_5 C dL_law_809 ?_
  refine sn_iconst C 1 (by decide) dL_law_811 ?_
  refine sn_iadd C dL_law_812 ?_
  refine sw_sld C Z (by omega) hL ex dL_law_813 ?_
  refine sw_aload_3 C dL_law_814 ?_
  refine sw_callW (as := [.ref 0, zi x, .ref 23]) (st := []) (n := 3) C (fun s e => e ▸ NC) wL_advance rfl iL_law ⟨by decide, by decide⟩ (by decide) (by decide) sL_advance kL_189 dL_law_815 rfl (Nat.le_of_ble_eq_true rfl) c1 (by omega) (by omega) (by omega) ?_
  refine sw_istore_6 C rfl dL_law_818 ?_
  refine sw_aload_2 C dL_law_820 ?_
  refine sw_aload_0 C dL_law_821 ?_
  refine sw_iload_5 C dL_law_822 ?_
  refine sn_iconst C 1 (by decide) dL_law_824 ?_
  refine sn_iadd C dL_law_825 ?_
  refine sw_sld C Z (by omega) hL ex dL_law_826 ?_
  refine sn_cV1r C vX6_advance lL_191 rfl (by decide) rfl rfl dL_law_827 (Nat.le_of_ble_eq_true rfl) c2 (by omega) (by omega) (by omega) ?_
  refine sw_istore_7 C rfl dL_law_830 ?_
  refine sw_aload_2 C dL_law_832 ?_
  refine sn_cV0r C vX6_thrown lL_164 rfl (by decide) rfl rfl dL_law_833 (Nat.le_of_ble_eq_true rfl) (c_X6_thrown hl) (by omega) (by omega) (by omega) ?_
  refine sw_iload_6 C dL_law_836 ?_
  refine sn_icmp_eq C 843 (by omega) (by omega) dL_law_838 (by decide) (fun c => ?_) (fun c => absurd hk c)
  refine sw_iload_6 C dL_law_843 ?_
  refine sn_if_ne C 860 (by omega) dL_law_845 (by decide) (fun c1 => ?_) (fun c0 => ?_)
  · refine sw_goto C 2938 dL_law_860 (by decide) ?_
    exact sw_fg (K _ _ _ _ _ (by omega) (by omega) H2)
  · have eJ := hJ c0
    refine sw_aload_3 C dL_law_848 ?_
    refine sn_iconst C 0 (by decide) dL_law_849 ?_
    refine sw_lald C dL_law_850 ?_
    refine sw_iload_7 C dL_law_851 ?_
    refine sw_i2l C dL_law_853 ?_
    refine sw_lcmp C dL_law_854 ?_
    refine sw_if_eq C 860 dL_law_855 (by decide) (fun _ => ?_) (fun c => absurd (by rw [eJ]; exact zCmp_self) c)
    refine sw_goto C 2938 dL_law_860 (by decide) ?_
    exact sw_fg (K _ _ _ _ _ (by omega) (by omega) H2)
set_option maxRecDepth 100000 in
set_option maxHeartbeats 4000000 in
theorem cs_9 {G : zG} {X : zX} {L : Nat} {xs : Nat → Int32} {a b i : Nat} {S : zS} {J : Int64} {E : UInt64} (W : zLw G X L xs) (H : zInv S S) (hi : i + 3 ≤ L) (hL : L ≤ 1536) (ha : a + 25 ≤ 603072) (hb : b + 850 ≤ 7211114) (K : zGo G X a b i) : SN G X a b 863 [some (.ref 400), some (.ref 0), some (.ref 12), some (.ref 23), some (.ref 24), some (zi i), none, none, none] [] S J E := by
  obtain ⟨C, Z, NC, hl, hG⟩ := W
  obtain ⟨v, w, d1, d2, S1, S2, ⟨h1, h2⟩, c1, c2, hv, H2⟩ := op_listenerCount hl (G := G) (J := J) (E := E) H
  refine sw_aload_1 C dL_law_863 ?_
  refine sn_cV0r C vX5_listenerCount lL_192 rfl (by decide) rfl rfl dL_law_864 (Nat.le_of_ble_eq_true rfl) c1 (by omega) (by omega) (by omega) ?_
  refine sw_aload_2 C dL_law_867 ?_
  refine sn_cV0r C vX6_listenerCount lL_195 rfl (by decide) rfl rfl dL_law_868 (Nat.le_of_ble_eq_true rfl) c2 (by omega) (by omega) (by omega) ?_
  exact sw_icmp_eq C 2938 dL_law_871 (by decide) (fun c => K _ _ _ _ _ (by omega) (by omega) H2) (fun c => absurd hv c)
set_option maxRecDepth 100000 in
set_option maxHeartbeats 4000000 in
theorem cs_10 {G : zG} {X : zX} {L : Nat} {xs : Nat → Int32} {a b i : Nat} {S : zS} {J : Int64} {E : UInt64} (W : zLw G X L xs) (H : zInv S S) (hi : i + 3 ≤ L) (hL : L ≤ 1536) (ha : a + 25 ≤ 603072) (hb : b + 850 ≤ 7211114) (K : zGo G X a b i) : SN G X a b 876 [some (.ref 400), some (.ref 0), some (.ref 12), some (.ref 23), some (.ref 24), some (zi i), none, none, none] [] S J E := by
  obtain ⟨C, Z, NC, hl, hG⟩ := W
  obtain ⟨x, hx, ex⟩ := zInt (xs (i + 1))
  obtain ⟨k, w, d1, d2, mc, ms, S1, S2, J1, ⟨h1, h2, h3, h4⟩, c1, c2, hk, hk5, hJ, H2⟩ := op_hive hl (G := G) (J := J) (E := E) H hx
  refine sw_aload_1 C dL_law_876 ?_
  refine sw_aload_0 C dL_law_877 ?_
  refine sw_iload_5 C dL_law_878 ?_
  refine sn_iconst C 1 (by decide) dL_law_880 ?_
  refine sn_iadd C dL_law_881 ?_
  refine sw_sld C Z (by omega) hL ex dL_law_882 ?_
  refine sw_aload_3 C dL_law_883 ?_
  refine sw_callW (as := [.ref 0, zi x, .ref 23]) (st := []) (n := 3) C (fun s e => e ▸ NC) wL_hive rfl iL_law ⟨by decide, by decide⟩ (by decide) (by decide) sL_hive kL_196 dL_law_884 rfl (Nat.le_of_ble_eq_true rfl) c1 (by omega) (by omega) (by omega) ?_
  refine sw_istore_6 C rfl dL_law_887 ?_
  refine sw_aload_2 C dL_law_889 ?_
  refine sw_aload_0 C dL_law_890 ?_
  refine sw_iload_5 C dL_law_891 ?_
  refine sn_iconst C 1 (by decide) dL_law_893 ?_
  refine sn_iadd C dL_law_894 ?_
  refine sw_sld C Z (by omega) hL ex dL_law_895 ?_
  refine sn_cV1r C vX6_hive lL_198 rfl (by decide) rfl rfl dL_law_896 (Nat.le_of_ble_eq_true rfl) c2 (by omega) (by omega) (by omega) ?_
  refine sw_istore_7 C rfl dL_law_899 ?_
  refine sw_aload_2 C dL_law_901 ?_
  refine sn_cV0r C vX6_thrown lL_164 rfl (by decide) rfl rfl dL_law_902 (Nat.le_of_ble_eq_true rfl) (c_X6_thrown hl) (by omega) (by omega) (by omega) ?_
  refine sw_iload_6 C dL_law_905 ?_
  refine sn_icmp_eq C 912 (by omega) (by omega) dL_law_907 (by decide) (fun c => ?_) (fun c => absurd hk c)
  refine sw_iload_6 C dL_law_912 ?_
  refine sn_if_ne C 929 (by omega) dL_law_914 (by decide) (fun c1 => ?_) (fun c0 => ?_)
  · refine sw_goto C 2938 dL_law_929 (by decide) ?_
    exact sw_fg (K _ _ _ _ _ (by omega) (by omega) H2)
  · have eJ := hJ c0
    refine sw_aload_3 C dL_law_917 ?_
    refine sn_iconst C 0 (by decide) dL_law_918 ?_
    refine sw_lald C dL_law_919 ?_
    refine sw_iload_7 C dL_law_920 ?_
    refine sw_i2l C dL_law_922 ?_
    refine sw_lcmp C dL_law_923 ?_
    refine sw_if_eq C 929 dL_law_924 (by decide) (fun _ => ?_) (fun c => absurd (by rw [eJ]; exact zCmp_self) c)
    refine sw_goto C 2938 dL_law_929 (by decide) ?_
    exact sw_fg (K _ _ _ _ _ (by omega) (by omega) H2)
set_option maxRecDepth 100000 in
set_option maxHeartbeats 4000000 in
theorem cs_11 {G : zG} {X : zX} {L : Nat} {xs : Nat → Int32} {a b i : Nat} {S : zS} {J : Int64} {E : UInt64} (W : zLw G X L xs) (H : zInv S S) (hi : i + 3 ≤ L) (hL : L ≤ 1536) (ha : a + 25 ≤ 603072) (hb : b + 850 ≤ 7211114) (K : zGo G X a b i) : SN G X a b 932 [some (.ref 400), some (.ref 0), some (.ref 12), some (.ref 23), some (.ref 24), some (zi i), none, none, none] [] S J E := by
  obtain ⟨C, Z, NC, hl, hG⟩ := W
  obtain ⟨x, hx, ex⟩ := zInt (xs (i + 1))
  obtain ⟨k, w, d1, d2, mc, ms, S1, S2, J1, ⟨h1, h2, h3, h4⟩, c1, c2, hk, hk5, hJ, H2⟩ := op_doubt hl (G := G) (J := J) (E := E) H hx
  refine sw_aload_1 C dL_law_932 ?_
  refine sw_aload_0 C dL_law_933 ?_
  refine sw_iload_5 C dL_law_934 ?_
  refine sn_iconst C 1 (by decide) dL_law_936 ?_
  refine sn_iadd C dL_law_937 ?_
  refine sw_sld C Z (by omega) hL ex dL_law_938 ?_
  refine sw_aload_3 C dL_law_939 ?_
  refine sw_callW (as := [.ref 0, zi x, .ref 23]) (st := []) (n := 3) C (fun s e => e ▸ NC) wL_doubt rfl iL_law ⟨by decide, by decide⟩ (by decide) (by decide) sL_doubt kL_199 dL_law_940 rfl (Nat.le_of_ble_eq_true rfl) c1 (by omega) (by omega) (by omega) ?_
  refine sw_istore_6 C rfl dL_law_943 ?_
  refine sw_aload_2 C dL_law_945 ?_
  refine sw_aload_0 C dL_law_946 ?_
  refine sw_iload_5 C dL_law_947 ?_
  refine sn_iconst C 1 (by decide) dL_law_949 ?_
  refine sn_iadd C dL_law_950 ?_
  refine sw_sld C Z (by omega) hL ex dL_law_951 ?_
  refine sn_cV1r C vX6_doubt lL_201 rfl (by decide) rfl rfl dL_law_952 (Nat.le_of_ble_eq_true rfl) c2 (by omega) (by omega) (by omega) ?_
  refine sw_istore_7 C rfl dL_law_955 ?_
  refine sw_aload_2 C dL_law_957 ?_
  refine sn_cV0r C vX6_thrown lL_164 rfl (by decide) rfl rfl dL_law_958 (Nat.le_of_ble_eq_true rfl) (c_X6_thrown hl) (by omega) (by omega) (by omega) ?_
  refine sw_iload_6 C dL_law_961 ?_
  refine sn_icmp_eq C 968 (by omega) (by omega) dL_law_963 (by decide) (fun c => ?_) (fun c => absurd hk c)
  refine sw_iload_6 C dL_law_968 ?_
  refine sn_if_ne C 985 (by omega) dL_law_970 (by decide) (fun c1 => ?_) (fun c0 => ?_)
  · refine sw_goto C 2938 dL_law_985 (by decide) ?_
    exact sw_fg (K _ _ _ _ _ (by omega) (by omega) H2)
  · have eJ := hJ c0
    refine sw_aload_3 C dL_law_973 ?_
    refine sn_iconst C 0 (by decide) dL_law_974 ?_
    refine sw_lald C dL_law_975 ?_
    refine sw_iload_7 C dL_law_976 ?_
    refine sw_i2l C dL_law_978 ?_
    refine sw_lcmp C dL_law_979 ?_
    refine sw_if_eq C 985 dL_law_980 (by decide) (fun _ => ?_) (fun c => absurd (by rw [eJ]; exact zCmp_self) c)
    refine sw_goto C 2938 dL_law_985 (by decide) ?_
    exact sw_fg (K _ _ _ _ _ (by omega) (by omega) H2)
set_option maxRecDepth 100000 in
set_option maxHeartbeats 4000000 in
theorem cs_12 {G : zG} {X : zX} {L : Nat} {xs : Nat → Int32} {a b i : Nat} {S : zS} {J : Int64} {E : UInt64} (W : zLw G X L xs) (H : zInv S S) (hi : i + 3 ≤ L) (hL : L ≤ 1536) (ha : a + 25 ≤ 603072) (hb : b + 850 ≤ 7211114) (K : zGo G X a b i) : SN G X a b 988 [some (.ref 400), some (.ref 0), some (.ref 12), some (.ref 23), some (.ref 24), some (zi i), none, none, none] [] S J E := by
  obtain ⟨C, Z, NC, hl, hG⟩ := W
  obtain ⟨x, hx, ex⟩ := zInt (xs (i + 1))
  obtain ⟨y, hy, ey⟩ := zInt (xs (i + 2))
  obtain ⟨k, d1, d2, mc, ms, w, S1, S2, J1, ⟨h1, h2, h3, h4⟩, c1, c2, hk, hk5, hJ, H2⟩ := op_isLinked hl (G := G) (J := J) (E := E) H hx hy
  refine sw_aload_1 C dL_law_988 ?_
  refine sw_aload_0 C dL_law_989 ?_
  refine sw_iload_5 C dL_law_990 ?_
  refine sn_iconst C 1 (by decide) dL_law_992 ?_
  refine sn_iadd C dL_law_993 ?_
  refine sw_sld C Z (by omega) hL ex dL_law_994 ?_
  refine sw_aload_0 C dL_law_995 ?_
  refine sw_iload_5 C dL_law_996 ?_
  refine sn_iconst C 2 (by decide) dL_law_998 ?_
  refine sn_iadd C dL_law_999 ?_
  refine sw_sld C Z (by omega) hL ey dL_law_1000 ?_
  refine sw_aload_3 C dL_law_1001 ?_
  refine sw_callW (as := [.ref 0, zi x, zi y, .ref 23]) (st := []) (n := 4) C (fun s e => e ▸ NC) wL_isLinked rfl iL_law ⟨by decide, by decide⟩ (by decide) (by decide) sL_isLinked kL_202 dL_law_1002 rfl (Nat.le_of_ble_eq_true rfl) c1 (by omega) (by omega) (by omega) ?_
  refine sw_istore_6 C rfl dL_law_1005 ?_
  refine sw_aload_2 C dL_law_1007 ?_
  refine sw_aload_0 C dL_law_1008 ?_
  refine sw_iload_5 C dL_law_1009 ?_
  refine sn_iconst C 1 (by decide) dL_law_1011 ?_
  refine sn_iadd C dL_law_1012 ?_
  refine sw_sld C Z (by omega) hL ex dL_law_1013 ?_
  refine sw_aload_0 C dL_law_1014 ?_
  refine sw_iload_5 C dL_law_1015 ?_
  refine sn_iconst C 2 (by decide) dL_law_1017 ?_
  refine sn_iadd C dL_law_1018 ?_
  refine sw_sld C Z (by omega) hL ey dL_law_1019 ?_
  refine sn_cV2r C vX6_isLinked lL_204 rfl (by decide) rfl rfl dL_law_1020 (Nat.le_of_ble_eq_true rfl) c2 (by omega) (by omega) (by omega) ?_
  refine sw_istore_7 C rfl dL_law_1023 ?_
  refine sw_aload_2 C dL_law_1025 ?_
  refine sn_cV0r C vX6_thrown lL_164 rfl (by decide) rfl rfl dL_law_1026 (Nat.le_of_ble_eq_true rfl) (c_X6_thrown hl) (by omega) (by omega) (by omega) ?_
  refine sw_iload_6 C dL_law_1029 ?_
  refine sn_icmp_eq C 1036 (by omega) (by omega) dL_law_1031 (by decide) (fun c => ?_) (fun c => absurd hk c)
  refine sw_iload_6 C dL_law_1036 ?_
  refine sn_if_ne C 1060 (by omega) dL_law_1038 (by decide) (fun c1 => ?_) (fun c0 => ?_)
  · refine sw_goto C 2938 dL_law_1060 (by decide) ?_
    exact sw_fg (K _ _ _ _ _ (by omega) (by omega) H2)
  · have eJ := hJ c0
    refine sw_aload_3 C dL_law_1041 ?_
    refine sn_iconst C 0 (by decide) dL_law_1042 ?_
    refine sw_lald C dL_law_1043 ?_
    refine sw_iload_7 C dL_law_1044 ?_
    refine sn_if_eqB C 1053 dL_law_1046 (by decide) (fun cw => ?_) (fun cw => ?_)
    · refine sw_lconst C (v := 0) (by decide) dL_law_1053 ?_
      refine sw_lcmp C dL_law_1054 ?_
      refine sw_if_eq C 1060 dL_law_1055 (by decide) (fun _ => ?_) (fun c => absurd (by rw [eJ, cw]; exact zCmp_self) c)
      refine sw_goto C 2938 dL_law_1060 (by decide) ?_
      exact sw_fg (K _ _ _ _ _ (by omega) (by omega) H2)
    · refine sw_lconst C (v := 1) (by decide) dL_law_1049 ?_
      refine sw_goto C 1054 dL_law_1050 (by decide) ?_
      refine sw_lcmp C dL_law_1054 ?_
      refine sw_if_eq C 1060 dL_law_1055 (by decide) (fun _ => ?_) (fun c => absurd (by rw [eJ, cw]; exact zCmp_self) c)
      refine sw_goto C 2938 dL_law_1060 (by decide) ?_
      exact sw_fg (K _ _ _ _ _ (by omega) (by omega) H2)
