set_option maxRecDepth 100000 in
theorem zck0 : zCk 0 := ⟨rfl, rfl, by decide +kernel, tyJ0_ok, nmJ0⟩
set_option maxRecDepth 100000 in
theorem zck1 : zCk 1 := ⟨rfl, rfl, by decide +kernel, tyJ4_ok, nmJ4⟩
set_option maxRecDepth 100000 in
theorem zck4 : zCk 4 := ⟨rfl, rfl, by decide +kernel, tyX0_ok, nmX0⟩
set_option maxRecDepth 100000 in
theorem zck5 : zCk 5 := ⟨rfl, rfl, by decide +kernel, tyX1_ok, nmX1⟩
set_option maxRecDepth 100000 in
theorem zck6 : zCk 6 := ⟨rfl, rfl, by decide +kernel, tyX2_ok, nmX2⟩
set_option maxRecDepth 100000 in
theorem zck7 : zCk 7 := ⟨rfl, rfl, by decide +kernel, tyX3_ok, nmX3⟩
set_option maxRecDepth 100000 in
theorem zck8 : zCk 8 := ⟨rfl, rfl, by decide +kernel, tyX4_ok, nmX4⟩
set_option maxRecDepth 100000 in
theorem zck9 : zCk 9 := ⟨rfl, rfl, by decide +kernel, tyX5_ok, nmX5⟩
set_option maxRecDepth 100000 in
theorem zck10 : zCk 10 := ⟨rfl, rfl, by decide +kernel, tyX6_ok, nmX6⟩
abbrev mX0_init : zM := (yX0_init, cX0_init, 2, none)
theorem vX0_init : zMeB mX0_init 0 ∧ Cond.instanceMethod mX0_init.1 ∈ lw_tbl := ⟨⟨(List.mem_of_getElem? (i := 170) (by decide +kernel)), (List.mem_of_getElem? (i := 29) (by decide +kernel)), ⟨by decide +kernel, by decide +kernel⟩, by decide +kernel, by decide⟩, (List.mem_of_getElem? (i := 169) (by decide +kernel))⟩
abbrev mX0_keep : zM := (yX0_keep, cX0_keep, 2, none)
theorem vX0_keep : zMeV mX0_keep 1 := ⟨⟨(List.mem_of_getElem? (i := 582) (by decide +kernel)), (List.mem_of_getElem? (i := 29) (by decide +kernel)), ⟨by decide +kernel, by decide +kernel⟩, by decide +kernel, by decide⟩, (List.mem_of_getElem? (i := 580) (by decide +kernel)), (List.mem_of_getElem? (i := 581) (by decide +kernel))⟩
abbrev mX0_takeBack : zM := (yX0_takeBack, cX0_takeBack, 2, none)
theorem vX0_takeBack : zMeV mX0_takeBack 1 := ⟨⟨(List.mem_of_getElem? (i := 1220) (by decide +kernel)), (List.mem_of_getElem? (i := 29) (by decide +kernel)), ⟨by decide +kernel, by decide +kernel⟩, by decide +kernel, by decide⟩, (List.mem_of_getElem? (i := 1218) (by decide +kernel)), (List.mem_of_getElem? (i := 1219) (by decide +kernel))⟩
abbrev mX1_init : zM := (yX1_init, cX1_init, 1, none)
theorem vX1_init : zMeB mX1_init 0 ∧ Cond.instanceMethod mX1_init.1 ∈ lw_tbl := ⟨⟨(List.mem_of_getElem? (i := 72) (by decide +kernel)), (List.mem_of_getElem? (i := 27) (by decide +kernel)), ⟨by decide +kernel, by decide +kernel⟩, by decide +kernel, by decide⟩, (List.mem_of_getElem? (i := 71) (by decide +kernel))⟩
abbrev mX1_copyFrom : zM := (yX1_copyFrom, cX1_copyFrom, 2, none)
theorem vX1_copyFrom : zMeV mX1_copyFrom 1 := ⟨⟨(List.mem_of_getElem? (i := 590) (by decide +kernel)), (List.mem_of_getElem? (i := 27) (by decide +kernel)), ⟨by decide +kernel, by decide +kernel⟩, by decide +kernel, by decide⟩, (List.mem_of_getElem? (i := 588) (by decide +kernel)), (List.mem_of_getElem? (i := 589) (by decide +kernel))⟩
abbrev mX1_joined : zM := (yX1_joined, cX1_joined, 3, (some .boolean))
theorem vX1_joined : zMeV mX1_joined 2 := ⟨⟨(List.mem_of_getElem? (i := 328) (by decide +kernel)), (List.mem_of_getElem? (i := 27) (by decide +kernel)), ⟨by decide +kernel, by decide +kernel⟩, by decide +kernel, by decide⟩, (List.mem_of_getElem? (i := 326) (by decide +kernel)), (List.mem_of_getElem? (i := 327) (by decide +kernel))⟩
abbrev mX1_join : zM := (yX1_join, cX1_join, 3, (some .int))
theorem vX1_join : zMeV mX1_join 2 := ⟨⟨(List.mem_of_getElem? (i := 612) (by decide +kernel)), (List.mem_of_getElem? (i := 27) (by decide +kernel)), ⟨by decide +kernel, by decide +kernel⟩, by decide +kernel, by decide⟩, (List.mem_of_getElem? (i := 610) (by decide +kernel)), (List.mem_of_getElem? (i := 611) (by decide +kernel))⟩
abbrev mX1_cut : zM := (yX1_cut, cX1_cut, 3, (some .int))
theorem vX1_cut : zMeV mX1_cut 2 := ⟨⟨(List.mem_of_getElem? (i := 616) (by decide +kernel)), (List.mem_of_getElem? (i := 27) (by decide +kernel)), ⟨by decide +kernel, by decide +kernel⟩, by decide +kernel, by decide⟩, (List.mem_of_getElem? (i := 614) (by decide +kernel)), (List.mem_of_getElem? (i := 615) (by decide +kernel))⟩
abbrev mX1_around : zM := (yX1_around, cX1_around, 4, (some .int))
theorem vX1_around : zMeV mX1_around 1 := ⟨⟨(List.mem_of_getElem? (i := 316) (by decide +kernel)), (List.mem_of_getElem? (i := 27) (by decide +kernel)), ⟨by decide +kernel, by decide +kernel⟩, by decide +kernel, by decide⟩, (List.mem_of_getElem? (i := 315) (by decide +kernel)), (List.mem_of_getElem? (i := 1) (by decide +kernel))⟩
abbrev mX1_piecesBySearch : zM := (yX1_piecesBySearch, cX1_piecesBySearch, 4, (some .int))
theorem vX1_piecesBySearch : zMeV mX1_piecesBySearch 0 := ⟨⟨(List.mem_of_getElem? (i := 305) (by decide +kernel)), (List.mem_of_getElem? (i := 27) (by decide +kernel)), ⟨by decide +kernel, by decide +kernel⟩, by decide +kernel, by decide⟩, (List.mem_of_getElem? (i := 303) (by decide +kernel)), (List.mem_of_getElem? (i := 304) (by decide +kernel))⟩
abbrev mX1_pieceOf : zM := (yX1_pieceOf, cX1_pieceOf, 4, (some .int))
theorem vX1_pieceOf : zMeV mX1_pieceOf 1 := ⟨⟨(List.mem_of_getElem? (i := 312) (by decide +kernel)), (List.mem_of_getElem? (i := 27) (by decide +kernel)), ⟨by decide +kernel, by decide +kernel⟩, by decide +kernel, by decide⟩, (List.mem_of_getElem? (i := 311) (by decide +kernel)), (List.mem_of_getElem? (i := 0) (by decide +kernel))⟩
abbrev mX1_piecesByUnion : zM := (yX1_piecesByUnion, cX1_piecesByUnion, 4, (some .int))
theorem vX1_piecesByUnion : zMeV mX1_piecesByUnion 0 := ⟨⟨(List.mem_of_getElem? (i := 324) (by decide +kernel)), (List.mem_of_getElem? (i := 27) (by decide +kernel)), ⟨by decide +kernel, by decide +kernel⟩, by decide +kernel, by decide⟩, (List.mem_of_getElem? (i := 322) (by decide +kernel)), (List.mem_of_getElem? (i := 323) (by decide +kernel))⟩
abbrev mX1_unite : zM := (yX1_unite, cX1_unite, 5, (some .boolean))
theorem vX1_unite : zMeV mX1_unite 2 := ⟨⟨(List.mem_of_getElem? (i := 332) (by decide +kernel)), (List.mem_of_getElem? (i := 27) (by decide +kernel)), ⟨by decide +kernel, by decide +kernel⟩, by decide +kernel, by decide⟩, (List.mem_of_getElem? (i := 331) (by decide +kernel)), (List.mem_of_getElem? (i := 2) (by decide +kernel))⟩
abbrev mX1_rootOf : zM := (yX1_rootOf, cX1_rootOf, 4, (some .int))
theorem vX1_rootOf : zMeV mX1_rootOf 1 := ⟨⟨(List.mem_of_getElem? (i := 336) (by decide +kernel)), (List.mem_of_getElem? (i := 27) (by decide +kernel)), ⟨by decide +kernel, by decide +kernel⟩, by decide +kernel, by decide⟩, (List.mem_of_getElem? (i := 335) (by decide +kernel)), (List.mem_of_getElem? (i := 3) (by decide +kernel))⟩
abbrev mX1_stepsBySearch : zM := (yX1_stepsBySearch, cX1_stepsBySearch, 6, (some .int))
theorem vX1_stepsBySearch : zMeV mX1_stepsBySearch 2 := ⟨⟨(List.mem_of_getElem? (i := 344) (by decide +kernel)), (List.mem_of_getElem? (i := 27) (by decide +kernel)), ⟨by decide +kernel, by decide +kernel⟩, by decide +kernel, by decide⟩, (List.mem_of_getElem? (i := 342) (by decide +kernel)), (List.mem_of_getElem? (i := 343) (by decide +kernel))⟩
abbrev mX1_stepsByRelaxing : zM := (yX1_stepsByRelaxing, cX1_stepsByRelaxing, 4, (some .int))
theorem vX1_stepsByRelaxing : zMeV mX1_stepsByRelaxing 2 := ⟨⟨(List.mem_of_getElem? (i := 348) (by decide +kernel)), (List.mem_of_getElem? (i := 27) (by decide +kernel)), ⟨by decide +kernel, by decide +kernel⟩, by decide +kernel, by decide⟩, (List.mem_of_getElem? (i := 346) (by decide +kernel)), (List.mem_of_getElem? (i := 347) (by decide +kernel))⟩
abbrev mX1_relaxLinks : zM := (yX1_relaxLinks, cX1_relaxLinks, 3, none)
theorem vX1_relaxLinks : zMeV mX1_relaxLinks 0 := ⟨⟨(List.mem_of_getElem? (i := 352) (by decide +kernel)), (List.mem_of_getElem? (i := 27) (by decide +kernel)), ⟨by decide +kernel, by decide +kernel⟩, by decide +kernel, by decide⟩, (List.mem_of_getElem? (i := 351) (by decide +kernel)), (List.mem_of_getElem? (i := 4) (by decide +kernel))⟩
abbrev mX2_init : zM := (yX2_init, cX2_init, 1, none)
theorem vX2_init : zMeB mX2_init 0 ∧ Cond.instanceMethod mX2_init.1 ∈ lw_tbl := ⟨⟨(List.mem_of_getElem? (i := 101) (by decide +kernel)), (List.mem_of_getElem? (i := 28) (by decide +kernel)), ⟨by decide +kernel, by decide +kernel⟩, by decide +kernel, by decide⟩, (List.mem_of_getElem? (i := 100) (by decide +kernel))⟩
abbrev mX2_copyFrom : zM := (yX2_copyFrom, cX2_copyFrom, 2, none)
theorem vX2_copyFrom : zMeV mX2_copyFrom 1 := ⟨⟨(List.mem_of_getElem? (i := 598) (by decide +kernel)), (List.mem_of_getElem? (i := 28) (by decide +kernel)), ⟨by decide +kernel, by decide +kernel⟩, by decide +kernel, by decide⟩, (List.mem_of_getElem? (i := 596) (by decide +kernel)), (List.mem_of_getElem? (i := 597) (by decide +kernel))⟩
abbrev mX2_comeUp : zM := (yX2_comeUp, cX2_comeUp, 4, none)
theorem vX2_comeUp : zMeV mX2_comeUp 3 := ⟨⟨(List.mem_of_getElem? (i := 624) (by decide +kernel)), (List.mem_of_getElem? (i := 28) (by decide +kernel)), ⟨by decide +kernel, by decide +kernel⟩, by decide +kernel, by decide⟩, (List.mem_of_getElem? (i := 622) (by decide +kernel)), (List.mem_of_getElem? (i := 623) (by decide +kernel))⟩
abbrev mX2_aware : zM := (yX2_aware, cX2_aware, 1, (some .int))
theorem vX2_aware : zMeV mX2_aware 0 := ⟨⟨(List.mem_of_getElem? (i := 649) (by decide +kernel)), (List.mem_of_getElem? (i := 28) (by decide +kernel)), ⟨by decide +kernel, by decide +kernel⟩, by decide +kernel, by decide⟩, (List.mem_of_getElem? (i := 647) (by decide +kernel)), (List.mem_of_getElem? (i := 648) (by decide +kernel))⟩
abbrev mX2_silence : zM := (yX2_silence, cX2_silence, 1, (some .int))
theorem vX2_silence : zMeV mX2_silence 0 := ⟨⟨(List.mem_of_getElem? (i := 632) (by decide +kernel)), (List.mem_of_getElem? (i := 28) (by decide +kernel)), ⟨by decide +kernel, by decide +kernel⟩, by decide +kernel, by decide⟩, (List.mem_of_getElem? (i := 630) (by decide +kernel)), (List.mem_of_getElem? (i := 631) (by decide +kernel))⟩
abbrev mX2_revive : zM := (yX2_revive, cX2_revive, 3, (some .int))
theorem vX2_revive : zMeV mX2_revive 1 := ⟨⟨(List.mem_of_getElem? (i := 637) (by decide +kernel)), (List.mem_of_getElem? (i := 28) (by decide +kernel)), ⟨by decide +kernel, by decide +kernel⟩, by decide +kernel, by decide⟩, (List.mem_of_getElem? (i := 635) (by decide +kernel)), (List.mem_of_getElem? (i := 636) (by decide +kernel))⟩
abbrev mX2_weaken : zM := (yX2_weaken, cX2_weaken, 1, none)
theorem vX2_weaken : zMeV mX2_weaken 0 := ⟨⟨(List.mem_of_getElem? (i := 665) (by decide +kernel)), (List.mem_of_getElem? (i := 28) (by decide +kernel)), ⟨by decide +kernel, by decide +kernel⟩, by decide +kernel, by decide⟩, (List.mem_of_getElem? (i := 663) (by decide +kernel)), (List.mem_of_getElem? (i := 664) (by decide +kernel))⟩
abbrev mX2_signOf : zM := (yX2_signOf, cX2_signOf, 2, (some .char))
theorem vX2_signOf : zMeV mX2_signOf 1 := ⟨⟨(List.mem_of_getElem? (i := 1076) (by decide +kernel)), (List.mem_of_getElem? (i := 28) (by decide +kernel)), ⟨by decide +kernel, by decide +kernel⟩, by decide +kernel, by decide⟩, (List.mem_of_getElem? (i := 1074) (by decide +kernel)), (List.mem_of_getElem? (i := 1075) (by decide +kernel))⟩
abbrev mX3_init : zM := (yX3_init, cX3_init, 2, none)
theorem vX3_init : zMeB mX3_init 0 ∧ Cond.instanceMethod mX3_init.1 ∈ lw_tbl := ⟨⟨(List.mem_of_getElem? (i := 66) (by decide +kernel)), (List.mem_of_getElem? (i := 26) (by decide +kernel)), ⟨by decide +kernel, by decide +kernel⟩, by decide +kernel, by decide⟩, (List.mem_of_getElem? (i := 65) (by decide +kernel))⟩
abbrev mX3_copyFrom : zM := (yX3_copyFrom, cX3_copyFrom, 3, none)
theorem vX3_copyFrom : zMeV mX3_copyFrom 1 := ⟨⟨(List.mem_of_getElem? (i := 586) (by decide +kernel)), (List.mem_of_getElem? (i := 26) (by decide +kernel)), ⟨by decide +kernel, by decide +kernel⟩, by decide +kernel, by decide⟩, (List.mem_of_getElem? (i := 584) (by decide +kernel)), (List.mem_of_getElem? (i := 585) (by decide +kernel))⟩
abbrev mX3_hasListener : zM := (yX3_hasListener, cX3_hasListener, 2, (some .boolean))
theorem vX3_hasListener : zMeV mX3_hasListener 1 := ⟨⟨(List.mem_of_getElem? (i := 426) (by decide +kernel)), (List.mem_of_getElem? (i := 26) (by decide +kernel)), ⟨by decide +kernel, by decide +kernel⟩, by decide +kernel, by decide⟩, (List.mem_of_getElem? (i := 424) (by decide +kernel)), (List.mem_of_getElem? (i := 425) (by decide +kernel))⟩
abbrev mX3_hasRumour : zM := (yX3_hasRumour, cX3_hasRumour, 2, (some .boolean))
theorem vX3_hasRumour : zMeV mX3_hasRumour 1 := ⟨⟨(List.mem_of_getElem? (i := 443) (by decide +kernel)), (List.mem_of_getElem? (i := 26) (by decide +kernel)), ⟨by decide +kernel, by decide +kernel⟩, by decide +kernel, by decide⟩, (List.mem_of_getElem? (i := 441) (by decide +kernel)), (List.mem_of_getElem? (i := 442) (by decide +kernel))⟩
abbrev mX3_refusalToAdd : zM := (yX3_refusalToAdd, cX3_refusalToAdd, 3, (some .int))
theorem vX3_refusalToAdd : zMeV mX3_refusalToAdd 2 := ⟨⟨(List.mem_of_getElem? (i := 412) (by decide +kernel)), (List.mem_of_getElem? (i := 26) (by decide +kernel)), ⟨by decide +kernel, by decide +kernel⟩, by decide +kernel, by decide⟩, (List.mem_of_getElem? (i := 410) (by decide +kernel)), (List.mem_of_getElem? (i := 411) (by decide +kernel))⟩
abbrev mX3_add : zM := (yX3_add, cX3_add, 4, (some .int))
theorem vX3_add : zMeV mX3_add 2 := ⟨⟨(List.mem_of_getElem? (i := 608) (by decide +kernel)), (List.mem_of_getElem? (i := 26) (by decide +kernel)), ⟨by decide +kernel, by decide +kernel⟩, by decide +kernel, by decide⟩, (List.mem_of_getElem? (i := 606) (by decide +kernel)), (List.mem_of_getElem? (i := 607) (by decide +kernel))⟩
abbrev mX3_refusalToJoin : zM := (yX3_refusalToJoin, cX3_refusalToJoin, 3, (some .int))
theorem vX3_refusalToJoin : zMeV mX3_refusalToJoin 2 := ⟨⟨(List.mem_of_getElem? (i := 422) (by decide +kernel)), (List.mem_of_getElem? (i := 26) (by decide +kernel)), ⟨by decide +kernel, by decide +kernel⟩, by decide +kernel, by decide⟩, (List.mem_of_getElem? (i := 420) (by decide +kernel)), (List.mem_of_getElem? (i := 421) (by decide +kernel))⟩
abbrev mX3_refusalToCut : zM := (yX3_refusalToCut, cX3_refusalToCut, 3, (some .int))
theorem vX3_refusalToCut : zMeV mX3_refusalToCut 2 := ⟨⟨(List.mem_of_getElem? (i := 431) (by decide +kernel)), (List.mem_of_getElem? (i := 26) (by decide +kernel)), ⟨by decide +kernel, by decide +kernel⟩, by decide +kernel, by decide⟩, (List.mem_of_getElem? (i := 429) (by decide +kernel)), (List.mem_of_getElem? (i := 430) (by decide +kernel))⟩
abbrev mX3_refusalToMove : zM := (yX3_refusalToMove, cX3_refusalToMove, 3, (some .int))
theorem vX3_refusalToMove : zMeV mX3_refusalToMove 2 := ⟨⟨(List.mem_of_getElem? (i := 456) (by decide +kernel)), (List.mem_of_getElem? (i := 26) (by decide +kernel)), ⟨by decide +kernel, by decide +kernel⟩, by decide +kernel, by decide⟩, (List.mem_of_getElem? (i := 454) (by decide +kernel)), (List.mem_of_getElem? (i := 455) (by decide +kernel))⟩
abbrev mX3_move : zM := (yX3_move, cX3_move, 4, (some .int))
theorem vX3_move : zMeV mX3_move 2 := ⟨⟨(List.mem_of_getElem? (i := 641) (by decide +kernel)), (List.mem_of_getElem? (i := 26) (by decide +kernel)), ⟨by decide +kernel, by decide +kernel⟩, by decide +kernel, by decide⟩, (List.mem_of_getElem? (i := 639) (by decide +kernel)), (List.mem_of_getElem? (i := 640) (by decide +kernel))⟩
abbrev mX3_refusalToStart : zM := (yX3_refusalToStart, cX3_refusalToStart, 3, (some .int))
theorem vX3_refusalToStart : zMeV mX3_refusalToStart 2 := ⟨⟨(List.mem_of_getElem? (i := 435) (by decide +kernel)), (List.mem_of_getElem? (i := 26) (by decide +kernel)), ⟨by decide +kernel, by decide +kernel⟩, by decide +kernel, by decide⟩, (List.mem_of_getElem? (i := 433) (by decide +kernel)), (List.mem_of_getElem? (i := 434) (by decide +kernel))⟩
abbrev mX3_begin : zM := (yX3_begin, cX3_begin, 4, (some .int))
theorem vX3_begin : zMeV mX3_begin 2 := ⟨⟨(List.mem_of_getElem? (i := 620) (by decide +kernel)), (List.mem_of_getElem? (i := 26) (by decide +kernel)), ⟨by decide +kernel, by decide +kernel⟩, by decide +kernel, by decide⟩, (List.mem_of_getElem? (i := 618) (by decide +kernel)), (List.mem_of_getElem? (i := 619) (by decide +kernel))⟩
abbrev mX3_refusalToConvert : zM := (yX3_refusalToConvert, cX3_refusalToConvert, 3, (some .int))
theorem vX3_refusalToConvert : zMeV mX3_refusalToConvert 2 := ⟨⟨(List.mem_of_getElem? (i := 439) (by decide +kernel)), (List.mem_of_getElem? (i := 26) (by decide +kernel)), ⟨by decide +kernel, by decide +kernel⟩, by decide +kernel, by decide⟩, (List.mem_of_getElem? (i := 437) (by decide +kernel)), (List.mem_of_getElem? (i := 438) (by decide +kernel))⟩
abbrev mX3_convert : zM := (yX3_convert, cX3_convert, 4, (some .int))
theorem vX3_convert : zMeV mX3_convert 2 := ⟨⟨(List.mem_of_getElem? (i := 628) (by decide +kernel)), (List.mem_of_getElem? (i := 26) (by decide +kernel)), ⟨by decide +kernel, by decide +kernel⟩, by decide +kernel, by decide⟩, (List.mem_of_getElem? (i := 626) (by decide +kernel)), (List.mem_of_getElem? (i := 627) (by decide +kernel))⟩
abbrev mX3_refusalToSilence : zM := (yX3_refusalToSilence, cX3_refusalToSilence, 2, (some .int))
theorem vX3_refusalToSilence : zMeV mX3_refusalToSilence 1 := ⟨⟨(List.mem_of_getElem? (i := 448) (by decide +kernel)), (List.mem_of_getElem? (i := 26) (by decide +kernel)), ⟨by decide +kernel, by decide +kernel⟩, by decide +kernel, by decide⟩, (List.mem_of_getElem? (i := 446) (by decide +kernel)), (List.mem_of_getElem? (i := 447) (by decide +kernel))⟩
abbrev mX3_refusalToRevive : zM := (yX3_refusalToRevive, cX3_refusalToRevive, 3, (some .int))
theorem vX3_refusalToRevive : zMeV mX3_refusalToRevive 2 := ⟨⟨(List.mem_of_getElem? (i := 452) (by decide +kernel)), (List.mem_of_getElem? (i := 26) (by decide +kernel)), ⟨by decide +kernel, by decide +kernel⟩, by decide +kernel, by decide⟩, (List.mem_of_getElem? (i := 450) (by decide +kernel)), (List.mem_of_getElem? (i := 451) (by decide +kernel))⟩
abbrev mX3_passRounds : zM := (yX3_passRounds, cX3_passRounds, 6, (some .int))
theorem vX3_passRounds : zMeV mX3_passRounds 1 := ⟨⟨(List.mem_of_getElem? (i := 645) (by decide +kernel)), (List.mem_of_getElem? (i := 26) (by decide +kernel)), ⟨by decide +kernel, by decide +kernel⟩, by decide +kernel, by decide⟩, (List.mem_of_getElem? (i := 643) (by decide +kernel)), (List.mem_of_getElem? (i := 644) (by decide +kernel))⟩
abbrev mX3_spreadOnce : zM := (yX3_spreadOnce, cX3_spreadOnce, 5, (some .int))
theorem vX3_spreadOnce : zMeV mX3_spreadOnce 1 := ⟨⟨(List.mem_of_getElem? (i := 653) (by decide +kernel)), (List.mem_of_getElem? (i := 26) (by decide +kernel)), ⟨by decide +kernel, by decide +kernel⟩, by decide +kernel, by decide⟩, (List.mem_of_getElem? (i := 651) (by decide +kernel)), (List.mem_of_getElem? (i := 652) (by decide +kernel))⟩
abbrev mX3_hears : zM := (yX3_hears, cX3_hears, 3, (some .boolean))
theorem vX3_hears : zMeV mX3_hears 2 := ⟨⟨(List.mem_of_getElem? (i := 657) (by decide +kernel)), (List.mem_of_getElem? (i := 26) (by decide +kernel)), ⟨by decide +kernel, by decide +kernel⟩, by decide +kernel, by decide⟩, (List.mem_of_getElem? (i := 656) (by decide +kernel)), (List.mem_of_getElem? (i := 9) (by decide +kernel))⟩
abbrev mX3_believes : zM := (yX3_believes, cX3_believes, 4, (some .boolean))
theorem vX3_believes : zMeV mX3_believes 2 := ⟨⟨(List.mem_of_getElem? (i := 661) (by decide +kernel)), (List.mem_of_getElem? (i := 26) (by decide +kernel)), ⟨by decide +kernel, by decide +kernel⟩, by decide +kernel, by decide⟩, (List.mem_of_getElem? (i := 660) (by decide +kernel)), (List.mem_of_getElem? (i := 10) (by decide +kernel))⟩
abbrev mX3_believersToCome : zM := (yX3_believersToCome, cX3_believersToCome, 4, (some .int))
theorem vX3_believersToCome : zMeV mX3_believersToCome 1 := ⟨⟨(List.mem_of_getElem? (i := 1483) (by decide +kernel)), (List.mem_of_getElem? (i := 26) (by decide +kernel)), ⟨by decide +kernel, by decide +kernel⟩, by decide +kernel, by decide⟩, (List.mem_of_getElem? (i := 1481) (by decide +kernel)), (List.mem_of_getElem? (i := 1482) (by decide +kernel))⟩
abbrev mX3_membersOf : zM := (yX3_membersOf, cX3_membersOf, 4, (some .int))
theorem vX3_membersOf : zMeV mX3_membersOf 1 := ⟨⟨(List.mem_of_getElem? (i := 367) (by decide +kernel)), (List.mem_of_getElem? (i := 26) (by decide +kernel)), ⟨by decide +kernel, by decide +kernel⟩, by decide +kernel, by decide⟩, (List.mem_of_getElem? (i := 365) (by decide +kernel)), (List.mem_of_getElem? (i := 366) (by decide +kernel))⟩
abbrev mX3_hiveWithMost : zM := (yX3_hiveWithMost, cX3_hiveWithMost, 6, (some .int))
theorem vX3_hiveWithMost : zMeV mX3_hiveWithMost 1 := ⟨⟨(List.mem_of_getElem? (i := 1472) (by decide +kernel)), (List.mem_of_getElem? (i := 26) (by decide +kernel)), ⟨by decide +kernel, by decide +kernel⟩, by decide +kernel, by decide⟩, (List.mem_of_getElem? (i := 1470) (by decide +kernel)), (List.mem_of_getElem? (i := 1471) (by decide +kernel))⟩
abbrev mX3_rumourAtRank : zM := (yX3_rumourAtRank, cX3_rumourAtRank, 5, (some .int))
theorem vX3_rumourAtRank : zMeV mX3_rumourAtRank 1 := ⟨⟨(List.mem_of_getElem? (i := 736) (by decide +kernel)), (List.mem_of_getElem? (i := 26) (by decide +kernel)), ⟨by decide +kernel, by decide +kernel⟩, by decide +kernel, by decide⟩, (List.mem_of_getElem? (i := 734) (by decide +kernel)), (List.mem_of_getElem? (i := 735) (by decide +kernel))⟩
abbrev mX3_spreadsAhead : zM := (yX3_spreadsAhead, cX3_spreadsAhead, 5, (some .boolean))
theorem vX3_spreadsAhead : zMeV mX3_spreadsAhead 2 := ⟨⟨(List.mem_of_getElem? (i := 740) (by decide +kernel)), (List.mem_of_getElem? (i := 26) (by decide +kernel)), ⟨by decide +kernel, by decide +kernel⟩, by decide +kernel, by decide⟩, (List.mem_of_getElem? (i := 739) (by decide +kernel)), (List.mem_of_getElem? (i := 11) (by decide +kernel))⟩
abbrev mX3_listenerAtRank : zM := (yX3_listenerAtRank, cX3_listenerAtRank, 5, (some .int))
theorem vX3_listenerAtRank : zMeV mX3_listenerAtRank 1 := ⟨⟨(List.mem_of_getElem? (i := 1367) (by decide +kernel)), (List.mem_of_getElem? (i := 26) (by decide +kernel)), ⟨by decide +kernel, by decide +kernel⟩, by decide +kernel, by decide⟩, (List.mem_of_getElem? (i := 1365) (by decide +kernel)), (List.mem_of_getElem? (i := 1366) (by decide +kernel))⟩
abbrev mX3_gossipsAhead : zM := (yX3_gossipsAhead, cX3_gossipsAhead, 5, (some .boolean))
theorem vX3_gossipsAhead : zMeV mX3_gossipsAhead 2 := ⟨⟨(List.mem_of_getElem? (i := 1371) (by decide +kernel)), (List.mem_of_getElem? (i := 26) (by decide +kernel)), ⟨by decide +kernel, by decide +kernel⟩, by decide +kernel, by decide⟩, (List.mem_of_getElem? (i := 1370) (by decide +kernel)), (List.mem_of_getElem? (i := 21) (by decide +kernel))⟩
abbrev mX3_spreadBy : zM := (yX3_spreadBy, cX3_spreadBy, 4, (some .int))
theorem vX3_spreadBy : zMeV mX3_spreadBy 1 := ⟨⟨(List.mem_of_getElem? (i := 1375) (by decide +kernel)), (List.mem_of_getElem? (i := 26) (by decide +kernel)), ⟨by decide +kernel, by decide +kernel⟩, by decide +kernel, by decide⟩, (List.mem_of_getElem? (i := 1374) (by decide +kernel)), (List.mem_of_getElem? (i := 22) (by decide +kernel))⟩
abbrev mX3_gossips : zM := (yX3_gossips, cX3_gossips, 3, (some .int))
theorem vX3_gossips : zMeV mX3_gossips 0 := ⟨⟨(List.mem_of_getElem? (i := 783) (by decide +kernel)), (List.mem_of_getElem? (i := 26) (by decide +kernel)), ⟨by decide +kernel, by decide +kernel⟩, by decide +kernel, by decide⟩, (List.mem_of_getElem? (i := 781) (by decide +kernel)), (List.mem_of_getElem? (i := 782) (by decide +kernel))⟩
abbrev mX3_sumOfDoubts : zM := (yX3_sumOfDoubts, cX3_sumOfDoubts, 3, (some .int))
theorem vX3_sumOfDoubts : zMeV mX3_sumOfDoubts 0 := ⟨⟨(List.mem_of_getElem? (i := 771) (by decide +kernel)), (List.mem_of_getElem? (i := 26) (by decide +kernel)), ⟨by decide +kernel, by decide +kernel⟩, by decide +kernel, by decide⟩, (List.mem_of_getElem? (i := 769) (by decide +kernel)), (List.mem_of_getElem? (i := 770) (by decide +kernel))⟩
abbrev mX3_distancesAgree : zM := (yX3_distancesAgree, cX3_distancesAgree, 4, (some .boolean))
theorem vX3_distancesAgree : zMeV mX3_distancesAgree 0 := ⟨⟨(List.mem_of_getElem? (i := 340) (by decide +kernel)), (List.mem_of_getElem? (i := 26) (by decide +kernel)), ⟨by decide +kernel, by decide +kernel⟩, by decide +kernel, by decide⟩, (List.mem_of_getElem? (i := 338) (by decide +kernel)), (List.mem_of_getElem? (i := 339) (by decide +kernel))⟩
abbrev mX3_standsAreClear : zM := (yX3_standsAreClear, cX3_standsAreClear, 2, (some .boolean))
theorem vX3_standsAreClear : zMeV mX3_standsAreClear 0 := ⟨⟨(List.mem_of_getElem? (i := 359) (by decide +kernel)), (List.mem_of_getElem? (i := 26) (by decide +kernel)), ⟨by decide +kernel, by decide +kernel⟩, by decide +kernel, by decide⟩, (List.mem_of_getElem? (i := 357) (by decide +kernel)), (List.mem_of_getElem? (i := 358) (by decide +kernel))⟩
abbrev mX3_hivesAddUp : zM := (yX3_hivesAddUp, cX3_hivesAddUp, 3, (some .boolean))
theorem vX3_hivesAddUp : zMeV mX3_hivesAddUp 0 := ⟨⟨(List.mem_of_getElem? (i := 363) (by decide +kernel)), (List.mem_of_getElem? (i := 26) (by decide +kernel)), ⟨by decide +kernel, by decide +kernel⟩, by decide +kernel, by decide⟩, (List.mem_of_getElem? (i := 361) (by decide +kernel)), (List.mem_of_getElem? (i := 362) (by decide +kernel))⟩
abbrev mX4_init : zM := (yX4_init, cX4_init, 1, none)
theorem vX4_init : zMeB mX4_init 0 ∧ Cond.instanceMethod mX4_init.1 ∈ lw_tbl := ⟨⟨(List.mem_of_getElem? (i := 192) (by decide +kernel)), (List.mem_of_getElem? (i := 30) (by decide +kernel)), ⟨by decide +kernel, by decide +kernel⟩, by decide +kernel, by decide⟩, (List.mem_of_getElem? (i := 191) (by decide +kernel))⟩
abbrev mX4_put : zM := (yX4_put, cX4_put, 2, none)
theorem vX4_put : zMeV mX4_put 1 := ⟨⟨(List.mem_of_getElem? (i := 1123) (by decide +kernel)), (List.mem_of_getElem? (i := 30) (by decide +kernel)), ⟨by decide +kernel, by decide +kernel⟩, by decide +kernel, by decide⟩, (List.mem_of_getElem? (i := 1121) (by decide +kernel)), (List.mem_of_getElem? (i := 1122) (by decide +kernel))⟩
abbrev mX4_readAll : zM := (yX4_readAll, cX4_readAll, 4, (some .int))
theorem vX4_readAll : zMeV mX4_readAll 0 := ⟨⟨(List.mem_of_getElem? (i := 1134) (by decide +kernel)), (List.mem_of_getElem? (i := 30) (by decide +kernel)), ⟨by decide +kernel, by decide +kernel⟩, by decide +kernel, by decide⟩, (List.mem_of_getElem? (i := 1132) (by decide +kernel)), (List.mem_of_getElem? (i := 1133) (by decide +kernel))⟩
abbrev mX4_keepCommand : zM := (yX4_keepCommand, cX4_keepCommand, 3, none)
theorem vX4_keepCommand : zMeV mX4_keepCommand 2 := ⟨⟨(List.mem_of_getElem? (i := 1187) (by decide +kernel)), (List.mem_of_getElem? (i := 30) (by decide +kernel)), ⟨by decide +kernel, by decide +kernel⟩, by decide +kernel, by decide⟩, (List.mem_of_getElem? (i := 1186) (by decide +kernel)), (List.mem_of_getElem? (i := 18) (by decide +kernel))⟩
abbrev mX4_furthestKind : zM := (yX4_furthestKind, cX4_furthestKind, 5, (some .int))
theorem vX4_furthestKind : zMeV mX4_furthestKind 1 := ⟨⟨(List.mem_of_getElem? (i := 1138) (by decide +kernel)), (List.mem_of_getElem? (i := 30) (by decide +kernel)), ⟨by decide +kernel, by decide +kernel⟩, by decide +kernel, by decide⟩, (List.mem_of_getElem? (i := 1137) (by decide +kernel)), (List.mem_of_getElem? (i := 13) (by decide +kernel))⟩
abbrev mX4_formOf : zM := (yX4_formOf, cX4_formOf, 1, (some (.object "java/lang/String")))
theorem vX4_formOf : zMeS mX4_formOf 1 := ⟨⟨(List.mem_of_getElem? (i := 1145) (by decide +kernel)), (List.mem_of_getElem? (i := 30) (by decide +kernel)), ⟨by decide +kernel, by decide +kernel⟩, by decide +kernel, by decide⟩, (List.mem_of_getElem? (i := 1144) (by decide +kernel))⟩
abbrev mX4_match : zM := (yX4_match, cX4_match, 5, none)
theorem vX4_match : zMeV mX4_match 2 := ⟨⟨(List.mem_of_getElem? (i := 1142) (by decide +kernel)), (List.mem_of_getElem? (i := 30) (by decide +kernel)), ⟨by decide +kernel, by decide +kernel⟩, by decide +kernel, by decide⟩, (List.mem_of_getElem? (i := 1141) (by decide +kernel)), (List.mem_of_getElem? (i := 14) (by decide +kernel))⟩
abbrev mX4_takes : zM := (yX4_takes, cX4_takes, 2, (some .boolean))
theorem vX4_takes : zMeV mX4_takes 1 := ⟨⟨(List.mem_of_getElem? (i := 1175) (by decide +kernel)), (List.mem_of_getElem? (i := 30) (by decide +kernel)), ⟨by decide +kernel, by decide +kernel⟩, by decide +kernel, by decide⟩, (List.mem_of_getElem? (i := 1174) (by decide +kernel)), (List.mem_of_getElem? (i := 15) (by decide +kernel))⟩
abbrev mX4_takesNumber : zM := (yX4_takesNumber, cX4_takesNumber, 4, (some .boolean))
theorem vX4_takesNumber : zMeV mX4_takesNumber 1 := ⟨⟨(List.mem_of_getElem? (i := 1179) (by decide +kernel)), (List.mem_of_getElem? (i := 30) (by decide +kernel)), ⟨by decide +kernel, by decide +kernel⟩, by decide +kernel, by decide⟩, (List.mem_of_getElem? (i := 1178) (by decide +kernel)), (List.mem_of_getElem? (i := 16) (by decide +kernel))⟩
abbrev mX4_digitFollows : zM := (yX4_digitFollows, cX4_digitFollows, 1, (some .boolean))
theorem vX4_digitFollows : zMeV mX4_digitFollows 0 := ⟨⟨(List.mem_of_getElem? (i := 1183) (by decide +kernel)), (List.mem_of_getElem? (i := 30) (by decide +kernel)), ⟨by decide +kernel, by decide +kernel⟩, by decide +kernel, by decide⟩, (List.mem_of_getElem? (i := 1182) (by decide +kernel)), (List.mem_of_getElem? (i := 17) (by decide +kernel))⟩
abbrev mX5_init : zM := (yX5_init, cX5_init, 1, none)
theorem vX5_init : zMeB mX5_init 0 ∧ Cond.instanceMethod mX5_init.1 ∈ lw_tbl := ⟨⟨(List.mem_of_getElem? (i := 58) (by decide +kernel)), (List.mem_of_getElem? (i := 25) (by decide +kernel)), ⟨by decide +kernel, by decide +kernel⟩, by decide +kernel, by decide⟩, (List.mem_of_getElem? (i := 57) (by decide +kernel))⟩
abbrev mX5_addListener : zM := (yX5_addListener, cX5_addListener, 3, (some .int))
theorem vX5_addListener : zMeV mX5_addListener 2 := ⟨⟨(List.mem_of_getElem? (i := 400) (by decide +kernel)), (List.mem_of_getElem? (i := 25) (by decide +kernel)), ⟨by decide +kernel, by decide +kernel⟩, by decide +kernel, by decide⟩, (List.mem_of_getElem? (i := 398) (by decide +kernel)), (List.mem_of_getElem? (i := 399) (by decide +kernel))⟩
abbrev mX5_link : zM := (yX5_link, cX5_link, 3, (some .int))
theorem vX5_link : zMeV mX5_link 2 := ⟨⟨(List.mem_of_getElem? (i := 696) (by decide +kernel)), (List.mem_of_getElem? (i := 25) (by decide +kernel)), ⟨by decide +kernel, by decide +kernel⟩, by decide +kernel, by decide⟩, (List.mem_of_getElem? (i := 694) (by decide +kernel)), (List.mem_of_getElem? (i := 695) (by decide +kernel))⟩
abbrev mX5_unlink : zM := (yX5_unlink, cX5_unlink, 3, (some .int))
theorem vX5_unlink : zMeV mX5_unlink 2 := ⟨⟨(List.mem_of_getElem? (i := 1250) (by decide +kernel)), (List.mem_of_getElem? (i := 25) (by decide +kernel)), ⟨by decide +kernel, by decide +kernel⟩, by decide +kernel, by decide⟩, (List.mem_of_getElem? (i := 1248) (by decide +kernel)), (List.mem_of_getElem? (i := 1249) (by decide +kernel))⟩
abbrev mX5_moveListener : zM := (yX5_moveListener, cX5_moveListener, 3, (some .int))
theorem vX5_moveListener : zMeV mX5_moveListener 2 := ⟨⟨(List.mem_of_getElem? (i := 1257) (by decide +kernel)), (List.mem_of_getElem? (i := 25) (by decide +kernel)), ⟨by decide +kernel, by decide +kernel⟩, by decide +kernel, by decide⟩, (List.mem_of_getElem? (i := 1255) (by decide +kernel)), (List.mem_of_getElem? (i := 1256) (by decide +kernel))⟩
abbrev mX5_startRumour : zM := (yX5_startRumour, cX5_startRumour, 3, (some .int))
theorem vX5_startRumour : zMeV mX5_startRumour 2 := ⟨⟨(List.mem_of_getElem? (i := 703) (by decide +kernel)), (List.mem_of_getElem? (i := 25) (by decide +kernel)), ⟨by decide +kernel, by decide +kernel⟩, by decide +kernel, by decide⟩, (List.mem_of_getElem? (i := 701) (by decide +kernel)), (List.mem_of_getElem? (i := 702) (by decide +kernel))⟩
abbrev mX5_check : zM := (yX5_check, cX5_check, 3, (some .boolean))
theorem vX5_check : zMeV mX5_check 2 := ⟨⟨(List.mem_of_getElem? (i := 710) (by decide +kernel)), (List.mem_of_getElem? (i := 25) (by decide +kernel)), ⟨by decide +kernel, by decide +kernel⟩, by decide +kernel, by decide⟩, (List.mem_of_getElem? (i := 708) (by decide +kernel)), (List.mem_of_getElem? (i := 709) (by decide +kernel))⟩
abbrev mX5_deny : zM := (yX5_deny, cX5_deny, 2, (some .int))
theorem vX5_deny : zMeV mX5_deny 1 := ⟨⟨(List.mem_of_getElem? (i := 717) (by decide +kernel)), (List.mem_of_getElem? (i := 25) (by decide +kernel)), ⟨by decide +kernel, by decide +kernel⟩, by decide +kernel, by decide⟩, (List.mem_of_getElem? (i := 715) (by decide +kernel)), (List.mem_of_getElem? (i := 716) (by decide +kernel))⟩
abbrev mX5_answer : zM := (yX5_answer, cX5_answer, 3, (some .int))
theorem vX5_answer : zMeV mX5_answer 2 := ⟨⟨(List.mem_of_getElem? (i := 1264) (by decide +kernel)), (List.mem_of_getElem? (i := 25) (by decide +kernel)), ⟨by decide +kernel, by decide +kernel⟩, by decide +kernel, by decide⟩, (List.mem_of_getElem? (i := 1262) (by decide +kernel)), (List.mem_of_getElem? (i := 1263) (by decide +kernel))⟩
abbrev mX5_advance : zM := (yX5_advance, cX5_advance, 2, (some .int))
theorem vX5_advance : zMeV mX5_advance 1 := ⟨⟨(List.mem_of_getElem? (i := 724) (by decide +kernel)), (List.mem_of_getElem? (i := 25) (by decide +kernel)), ⟨by decide +kernel, by decide +kernel⟩, by decide +kernel, by decide⟩, (List.mem_of_getElem? (i := 722) (by decide +kernel)), (List.mem_of_getElem? (i := 723) (by decide +kernel))⟩
abbrev mX5_listenerCount : zM := (yX5_listenerCount, cX5_listenerCount, 1, (some .int))
theorem vX5_listenerCount : zMeV mX5_listenerCount 0 := ⟨⟨(List.mem_of_getElem? (i := 1235) (by decide +kernel)), (List.mem_of_getElem? (i := 25) (by decide +kernel)), ⟨by decide +kernel, by decide +kernel⟩, by decide +kernel, by decide⟩, (List.mem_of_getElem? (i := 1233) (by decide +kernel)), (List.mem_of_getElem? (i := 1234) (by decide +kernel))⟩
abbrev mX5_hive : zM := (yX5_hive, cX5_hive, 2, (some .int))
theorem vX5_hive : zMeV mX5_hive 1 := ⟨⟨(List.mem_of_getElem? (i := 1338) (by decide +kernel)), (List.mem_of_getElem? (i := 25) (by decide +kernel)), ⟨by decide +kernel, by decide +kernel⟩, by decide +kernel, by decide⟩, (List.mem_of_getElem? (i := 1336) (by decide +kernel)), (List.mem_of_getElem? (i := 1337) (by decide +kernel))⟩
abbrev mX5_doubt : zM := (yX5_doubt, cX5_doubt, 2, (some .int))
theorem vX5_doubt : zMeV mX5_doubt 1 := ⟨⟨(List.mem_of_getElem? (i := 1305) (by decide +kernel)), (List.mem_of_getElem? (i := 25) (by decide +kernel)), ⟨by decide +kernel, by decide +kernel⟩, by decide +kernel, by decide⟩, (List.mem_of_getElem? (i := 1303) (by decide +kernel)), (List.mem_of_getElem? (i := 1304) (by decide +kernel))⟩
abbrev mX5_isLinked : zM := (yX5_isLinked, cX5_isLinked, 3, (some .boolean))
theorem vX5_isLinked : zMeV mX5_isLinked 2 := ⟨⟨(List.mem_of_getElem? (i := 1312) (by decide +kernel)), (List.mem_of_getElem? (i := 25) (by decide +kernel)), ⟨by decide +kernel, by decide +kernel⟩, by decide +kernel, by decide⟩, (List.mem_of_getElem? (i := 1310) (by decide +kernel)), (List.mem_of_getElem? (i := 1311) (by decide +kernel))⟩
abbrev mX5_neighbourCount : zM := (yX5_neighbourCount, cX5_neighbourCount, 2, (some .int))
theorem vX5_neighbourCount : zMeV mX5_neighbourCount 1 := ⟨⟨(List.mem_of_getElem? (i := 1346) (by decide +kernel)), (List.mem_of_getElem? (i := 25) (by decide +kernel)), ⟨by decide +kernel, by decide +kernel⟩, by decide +kernel, by decide⟩, (List.mem_of_getElem? (i := 1344) (by decide +kernel)), (List.mem_of_getElem? (i := 1345) (by decide +kernel))⟩
abbrev mX5_linkCount : zM := (yX5_linkCount, cX5_linkCount, 1, (some .int))
theorem vX5_linkCount : zMeV mX5_linkCount 0 := ⟨⟨(List.mem_of_getElem? (i := 1397) (by decide +kernel)), (List.mem_of_getElem? (i := 25) (by decide +kernel)), ⟨by decide +kernel, by decide +kernel⟩, by decide +kernel, by decide⟩, (List.mem_of_getElem? (i := 1395) (by decide +kernel)), (List.mem_of_getElem? (i := 1396) (by decide +kernel))⟩
abbrev mX5_hiveSize : zM := (yX5_hiveSize, cX5_hiveSize, 2, (some .int))
theorem vX5_hiveSize : zMeV mX5_hiveSize 1 := ⟨⟨(List.mem_of_getElem? (i := 1385) (by decide +kernel)), (List.mem_of_getElem? (i := 25) (by decide +kernel)), ⟨by decide +kernel, by decide +kernel⟩, by decide +kernel, by decide⟩, (List.mem_of_getElem? (i := 1383) (by decide +kernel)), (List.mem_of_getElem? (i := 1384) (by decide +kernel))⟩
abbrev mX5_componentCount : zM := (yX5_componentCount, cX5_componentCount, 1, (some .int))
theorem vX5_componentCount : zMeV mX5_componentCount 0 := ⟨⟨(List.mem_of_getElem? (i := 301) (by decide +kernel)), (List.mem_of_getElem? (i := 25) (by decide +kernel)), ⟨by decide +kernel, by decide +kernel⟩, by decide +kernel, by decide⟩, (List.mem_of_getElem? (i := 299) (by decide +kernel)), (List.mem_of_getElem? (i := 300) (by decide +kernel))⟩
abbrev mX5_componentCountByUnion : zM := (yX5_componentCountByUnion, cX5_componentCountByUnion, 1, (some .int))
theorem vX5_componentCountByUnion : zMeV mX5_componentCountByUnion 0 := ⟨⟨(List.mem_of_getElem? (i := 1401) (by decide +kernel)), (List.mem_of_getElem? (i := 25) (by decide +kernel)), ⟨by decide +kernel, by decide +kernel⟩, by decide +kernel, by decide⟩, (List.mem_of_getElem? (i := 1399) (by decide +kernel)), (List.mem_of_getElem? (i := 1400) (by decide +kernel))⟩
abbrev mX5_rumourCount : zM := (yX5_rumourCount, cX5_rumourCount, 1, (some .int))
theorem vX5_rumourCount : zMeV mX5_rumourCount 0 := ⟨⟨(List.mem_of_getElem? (i := 1243) (by decide +kernel)), (List.mem_of_getElem? (i := 25) (by decide +kernel)), ⟨by decide +kernel, by decide +kernel⟩, by decide +kernel, by decide⟩, (List.mem_of_getElem? (i := 1241) (by decide +kernel)), (List.mem_of_getElem? (i := 1242) (by decide +kernel))⟩
abbrev mX5_strength : zM := (yX5_strength, cX5_strength, 2, (some .int))
theorem vX5_strength : zMeV mX5_strength 1 := ⟨⟨(List.mem_of_getElem? (i := 1413) (by decide +kernel)), (List.mem_of_getElem? (i := 25) (by decide +kernel)), ⟨by decide +kernel, by decide +kernel⟩, by decide +kernel, by decide⟩, (List.mem_of_getElem? (i := 1411) (by decide +kernel)), (List.mem_of_getElem? (i := 1412) (by decide +kernel))⟩
abbrev mX5_isAlive : zM := (yX5_isAlive, cX5_isAlive, 2, (some .boolean))
theorem vX5_isAlive : zMeV mX5_isAlive 1 := ⟨⟨(List.mem_of_getElem? (i := 1420) (by decide +kernel)), (List.mem_of_getElem? (i := 25) (by decide +kernel)), ⟨by decide +kernel, by decide +kernel⟩, by decide +kernel, by decide⟩, (List.mem_of_getElem? (i := 1418) (by decide +kernel)), (List.mem_of_getElem? (i := 1419) (by decide +kernel))⟩
abbrev mX5_starter : zM := (yX5_starter, cX5_starter, 2, (some .int))
theorem vX5_starter : zMeV mX5_starter 1 := ⟨⟨(List.mem_of_getElem? (i := 1282) (by decide +kernel)), (List.mem_of_getElem? (i := 25) (by decide +kernel)), ⟨by decide +kernel, by decide +kernel⟩, by decide +kernel, by decide⟩, (List.mem_of_getElem? (i := 1280) (by decide +kernel)), (List.mem_of_getElem? (i := 1281) (by decide +kernel))⟩
abbrev mX5_isSpreader : zM := (yX5_isSpreader, cX5_isSpreader, 3, (some .boolean))
theorem vX5_isSpreader : zMeV mX5_isSpreader 2 := ⟨⟨(List.mem_of_getElem? (i := 1356) (by decide +kernel)), (List.mem_of_getElem? (i := 25) (by decide +kernel)), ⟨by decide +kernel, by decide +kernel⟩, by decide +kernel, by decide⟩, (List.mem_of_getElem? (i := 1354) (by decide +kernel)), (List.mem_of_getElem? (i := 1355) (by decide +kernel))⟩
abbrev mX5_isSceptic : zM := (yX5_isSceptic, cX5_isSceptic, 3, (some .boolean))
theorem vX5_isSceptic : zMeV mX5_isSceptic 2 := ⟨⟨(List.mem_of_getElem? (i := 1439) (by decide +kernel)), (List.mem_of_getElem? (i := 25) (by decide +kernel)), ⟨by decide +kernel, by decide +kernel⟩, by decide +kernel, by decide⟩, (List.mem_of_getElem? (i := 1437) (by decide +kernel)), (List.mem_of_getElem? (i := 1438) (by decide +kernel))⟩
abbrev mX5_heardRound : zM := (yX5_heardRound, cX5_heardRound, 3, (some .int))
theorem vX5_heardRound : zMeV mX5_heardRound 2 := ⟨⟨(List.mem_of_getElem? (i := 1290) (by decide +kernel)), (List.mem_of_getElem? (i := 25) (by decide +kernel)), ⟨by decide +kernel, by decide +kernel⟩, by decide +kernel, by decide⟩, (List.mem_of_getElem? (i := 1288) (by decide +kernel)), (List.mem_of_getElem? (i := 1289) (by decide +kernel))⟩
abbrev mX5_spreaderCount : zM := (yX5_spreaderCount, cX5_spreaderCount, 2, (some .int))
theorem vX5_spreaderCount : zMeV mX5_spreaderCount 1 := ⟨⟨(List.mem_of_getElem? (i := 1453) (by decide +kernel)), (List.mem_of_getElem? (i := 25) (by decide +kernel)), ⟨by decide +kernel, by decide +kernel⟩, by decide +kernel, by decide⟩, (List.mem_of_getElem? (i := 1451) (by decide +kernel)), (List.mem_of_getElem? (i := 1452) (by decide +kernel))⟩
abbrev mX5_scepticCount : zM := (yX5_scepticCount, cX5_scepticCount, 2, (some .int))
theorem vX5_scepticCount : zMeV mX5_scepticCount 1 := ⟨⟨(List.mem_of_getElem? (i := 1460) (by decide +kernel)), (List.mem_of_getElem? (i := 25) (by decide +kernel)), ⟨by decide +kernel, by decide +kernel⟩, by decide +kernel, by decide⟩, (List.mem_of_getElem? (i := 1458) (by decide +kernel)), (List.mem_of_getElem? (i := 1459) (by decide +kernel))⟩
abbrev mX5_countedHive : zM := (yX5_countedHive, cX5_countedHive, 2, (some .int))
theorem vX5_countedHive : zMeV mX5_countedHive 1 := ⟨⟨(List.mem_of_getElem? (i := 1467) (by decide +kernel)), (List.mem_of_getElem? (i := 25) (by decide +kernel)), ⟨by decide +kernel, by decide +kernel⟩, by decide +kernel, by decide⟩, (List.mem_of_getElem? (i := 1465) (by decide +kernel)), (List.mem_of_getElem? (i := 1466) (by decide +kernel))⟩
abbrev mX5_spreadersInHive : zM := (yX5_spreadersInHive, cX5_spreadersInHive, 3, (some .int))
theorem vX5_spreadersInHive : zMeV mX5_spreadersInHive 2 := ⟨⟨(List.mem_of_getElem? (i := 1446) (by decide +kernel)), (List.mem_of_getElem? (i := 25) (by decide +kernel)), ⟨by decide +kernel, by decide +kernel⟩, by decide +kernel, by decide⟩, (List.mem_of_getElem? (i := 1444) (by decide +kernel)), (List.mem_of_getElem? (i := 1445) (by decide +kernel))⟩
abbrev mX5_distance : zM := (yX5_distance, cX5_distance, 3, (some .int))
theorem vX5_distance : zMeV mX5_distance 2 := ⟨⟨(List.mem_of_getElem? (i := 1493) (by decide +kernel)), (List.mem_of_getElem? (i := 25) (by decide +kernel)), ⟨by decide +kernel, by decide +kernel⟩, by decide +kernel, by decide⟩, (List.mem_of_getElem? (i := 1491) (by decide +kernel)), (List.mem_of_getElem? (i := 1492) (by decide +kernel))⟩
abbrev mX5_distanceByRelaxation : zM := (yX5_distanceByRelaxation, cX5_distanceByRelaxation, 3, (some .int))
theorem vX5_distanceByRelaxation : zMeV mX5_distanceByRelaxation 2 := ⟨⟨(List.mem_of_getElem? (i := 1501) (by decide +kernel)), (List.mem_of_getElem? (i := 25) (by decide +kernel)), ⟨by decide +kernel, by decide +kernel⟩, by decide +kernel, by decide⟩, (List.mem_of_getElem? (i := 1499) (by decide +kernel)), (List.mem_of_getElem? (i := 1500) (by decide +kernel))⟩
abbrev mX5_nextSpreaders : zM := (yX5_nextSpreaders, cX5_nextSpreaders, 2, (some .int))
theorem vX5_nextSpreaders : zMeV mX5_nextSpreaders 1 := ⟨⟨(List.mem_of_getElem? (i := 1479) (by decide +kernel)), (List.mem_of_getElem? (i := 25) (by decide +kernel)), ⟨by decide +kernel, by decide +kernel⟩, by decide +kernel, by decide⟩, (List.mem_of_getElem? (i := 1477) (by decide +kernel)), (List.mem_of_getElem? (i := 1478) (by decide +kernel))⟩
abbrev mX5_roundsUntilHeard : zM := (yX5_roundsUntilHeard, cX5_roundsUntilHeard, 3, (some .int))
theorem vX5_roundsUntilHeard : zMeV mX5_roundsUntilHeard 2 := ⟨⟨(List.mem_of_getElem? (i := 1526) (by decide +kernel)), (List.mem_of_getElem? (i := 25) (by decide +kernel)), ⟨by decide +kernel, by decide +kernel⟩, by decide +kernel, by decide⟩, (List.mem_of_getElem? (i := 1524) (by decide +kernel)), (List.mem_of_getElem? (i := 1525) (by decide +kernel))⟩
abbrev mX5_spreadersAfter : zM := (yX5_spreadersAfter, cX5_spreadersAfter, 4, (some .int))
theorem vX5_spreadersAfter : zMeV mX5_spreadersAfter 2 := ⟨⟨(List.mem_of_getElem? (i := 1516) (by decide +kernel)), (List.mem_of_getElem? (i := 25) (by decide +kernel)), ⟨by decide +kernel, by decide +kernel⟩, by decide +kernel, by decide⟩, (List.mem_of_getElem? (i := 1514) (by decide +kernel)), (List.mem_of_getElem? (i := 1515) (by decide +kernel))⟩
abbrev mX5_rumourBySpread : zM := (yX5_rumourBySpread, cX5_rumourBySpread, 2, (some .int))
theorem vX5_rumourBySpread : zMeV mX5_rumourBySpread 1 := ⟨⟨(List.mem_of_getElem? (i := 732) (by decide +kernel)), (List.mem_of_getElem? (i := 25) (by decide +kernel)), ⟨by decide +kernel, by decide +kernel⟩, by decide +kernel, by decide⟩, (List.mem_of_getElem? (i := 730) (by decide +kernel)), (List.mem_of_getElem? (i := 731) (by decide +kernel))⟩
abbrev mX5_listenerByGossip : zM := (yX5_listenerByGossip, cX5_listenerByGossip, 2, (some .int))
theorem vX5_listenerByGossip : zMeV mX5_listenerByGossip 1 := ⟨⟨(List.mem_of_getElem? (i := 1363) (by decide +kernel)), (List.mem_of_getElem? (i := 25) (by decide +kernel)), ⟨by decide +kernel, by decide +kernel⟩, by decide +kernel, by decide⟩, (List.mem_of_getElem? (i := 1361) (by decide +kernel)), (List.mem_of_getElem? (i := 1362) (by decide +kernel))⟩
abbrev mX5_round : zM := (yX5_round, cX5_round, 1, (some .int))
theorem vX5_round : zMeV mX5_round 0 := ⟨⟨(List.mem_of_getElem? (i := 1317) (by decide +kernel)), (List.mem_of_getElem? (i := 25) (by decide +kernel)), ⟨by decide +kernel, by decide +kernel⟩, by decide +kernel, by decide⟩, (List.mem_of_getElem? (i := 1315) (by decide +kernel)), (List.mem_of_getElem? (i := 1316) (by decide +kernel))⟩
abbrev mX5_heardTotal : zM := (yX5_heardTotal, cX5_heardTotal, 1, (some .int))
theorem vX5_heardTotal : zMeV mX5_heardTotal 0 := ⟨⟨(List.mem_of_getElem? (i := 1321) (by decide +kernel)), (List.mem_of_getElem? (i := 25) (by decide +kernel)), ⟨by decide +kernel, by decide +kernel⟩, by decide +kernel, by decide⟩, (List.mem_of_getElem? (i := 1319) (by decide +kernel)), (List.mem_of_getElem? (i := 1320) (by decide +kernel))⟩
abbrev mX5_successfulChecks : zM := (yX5_successfulChecks, cX5_successfulChecks, 1, (some .int))
theorem vX5_successfulChecks : zMeV mX5_successfulChecks 0 := ⟨⟨(List.mem_of_getElem? (i := 1325) (by decide +kernel)), (List.mem_of_getElem? (i := 25) (by decide +kernel)), ⟨by decide +kernel, by decide +kernel⟩, by decide +kernel, by decide⟩, (List.mem_of_getElem? (i := 1323) (by decide +kernel)), (List.mem_of_getElem? (i := 1324) (by decide +kernel))⟩
abbrev mX5_meanDoubt : zM := (yX5_meanDoubt, cX5_meanDoubt, 1, (some .double))
theorem vX5_meanDoubt : zMeV mX5_meanDoubt 0 := ⟨⟨(List.mem_of_getElem? (i := 764) (by decide +kernel)), (List.mem_of_getElem? (i := 25) (by decide +kernel)), ⟨by decide +kernel, by decide +kernel⟩, by decide +kernel, by decide⟩, (List.mem_of_getElem? (i := 762) (by decide +kernel)), (List.mem_of_getElem? (i := 763) (by decide +kernel))⟩
abbrev mX5_gossipShare : zM := (yX5_gossipShare, cX5_gossipShare, 1, (some .float))
theorem vX5_gossipShare : zMeV mX5_gossipShare 0 := ⟨⟨(List.mem_of_getElem? (i := 779) (by decide +kernel)), (List.mem_of_getElem? (i := 25) (by decide +kernel)), ⟨by decide +kernel, by decide +kernel⟩, by decide +kernel, by decide⟩, (List.mem_of_getElem? (i := 777) (by decide +kernel)), (List.mem_of_getElem? (i := 778) (by decide +kernel))⟩
abbrev mX5_isConsistent : zM := (yX5_isConsistent, cX5_isConsistent, 1, (some .boolean))
theorem vX5_isConsistent : zMeV mX5_isConsistent 0 := ⟨⟨(List.mem_of_getElem? (i := 320) (by decide +kernel)), (List.mem_of_getElem? (i := 25) (by decide +kernel)), ⟨by decide +kernel, by decide +kernel⟩, by decide +kernel, by decide⟩, (List.mem_of_getElem? (i := 318) (by decide +kernel)), (List.mem_of_getElem? (i := 319) (by decide +kernel))⟩
abbrev mX5_renderRumour : zM := (yX5_renderRumour, cX5_renderRumour, 4, (some .int))
theorem vX5_renderRumour : zMeV mX5_renderRumour 1 := ⟨⟨(List.mem_of_getElem? (i := 792) (by decide +kernel)), (List.mem_of_getElem? (i := 25) (by decide +kernel)), ⟨by decide +kernel, by decide +kernel⟩, by decide +kernel, by decide⟩, (List.mem_of_getElem? (i := 790) (by decide +kernel)), (List.mem_of_getElem? (i := 791) (by decide +kernel))⟩
abbrev mX5_renderHive : zM := (yX5_renderHive, cX5_renderHive, 4, (some .int))
theorem vX5_renderHive : zMeV mX5_renderHive 1 := ⟨⟨(List.mem_of_getElem? (i := 1085) (by decide +kernel)), (List.mem_of_getElem? (i := 25) (by decide +kernel)), ⟨by decide +kernel, by decide +kernel⟩, by decide +kernel, by decide⟩, (List.mem_of_getElem? (i := 1083) (by decide +kernel)), (List.mem_of_getElem? (i := 1084) (by decide +kernel))⟩
abbrev mX5_outputAt : zM := (yX5_outputAt, cX5_outputAt, 2, (some .char))
theorem vX5_outputAt : zMeV mX5_outputAt 1 := ⟨⟨(List.mem_of_getElem? (i := 1099) (by decide +kernel)), (List.mem_of_getElem? (i := 25) (by decide +kernel)), ⟨by decide +kernel, by decide +kernel⟩, by decide +kernel, by decide⟩, (List.mem_of_getElem? (i := 1097) (by decide +kernel)), (List.mem_of_getElem? (i := 1098) (by decide +kernel))⟩
abbrev mX5_type : zM := (yX5_type, cX5_type, 2, (some .int))
theorem vX5_type : zMeV mX5_type 1 := ⟨⟨(List.mem_of_getElem? (i := 1117) (by decide +kernel)), (List.mem_of_getElem? (i := 25) (by decide +kernel)), ⟨by decide +kernel, by decide +kernel⟩, by decide +kernel, by decide⟩, (List.mem_of_getElem? (i := 1115) (by decide +kernel)), (List.mem_of_getElem? (i := 1116) (by decide +kernel))⟩
abbrev mX5_runScript : zM := (yX5_runScript, cX5_runScript, 3, (some .int))
theorem vX5_runScript : zMeV mX5_runScript 0 := ⟨⟨(List.mem_of_getElem? (i := 1130) (by decide +kernel)), (List.mem_of_getElem? (i := 25) (by decide +kernel)), ⟨by decide +kernel, by decide +kernel⟩, by decide +kernel, by decide⟩, (List.mem_of_getElem? (i := 1128) (by decide +kernel)), (List.mem_of_getElem? (i := 1129) (by decide +kernel))⟩
abbrev mX5_errorPosition : zM := (yX5_errorPosition, cX5_errorPosition, 1, (some .int))
theorem vX5_errorPosition : zMeV mX5_errorPosition 0 := ⟨⟨(List.mem_of_getElem? (i := 1201) (by decide +kernel)), (List.mem_of_getElem? (i := 25) (by decide +kernel)), ⟨by decide +kernel, by decide +kernel⟩, by decide +kernel, by decide⟩, (List.mem_of_getElem? (i := 1199) (by decide +kernel)), (List.mem_of_getElem? (i := 1200) (by decide +kernel))⟩
abbrev mX5_failedCommand : zM := (yX5_failedCommand, cX5_failedCommand, 1, (some .int))
theorem vX5_failedCommand : zMeV mX5_failedCommand 0 := ⟨⟨(List.mem_of_getElem? (i := 1208) (by decide +kernel)), (List.mem_of_getElem? (i := 25) (by decide +kernel)), ⟨by decide +kernel, by decide +kernel⟩, by decide +kernel, by decide⟩, (List.mem_of_getElem? (i := 1206) (by decide +kernel)), (List.mem_of_getElem? (i := 1207) (by decide +kernel))⟩
abbrev mX5_undo : zM := (yX5_undo, cX5_undo, 1, (some .int))
theorem vX5_undo : zMeV mX5_undo 0 := ⟨⟨(List.mem_of_getElem? (i := 1215) (by decide +kernel)), (List.mem_of_getElem? (i := 25) (by decide +kernel)), ⟨by decide +kernel, by decide +kernel⟩, by decide +kernel, by decide⟩, (List.mem_of_getElem? (i := 1213) (by decide +kernel)), (List.mem_of_getElem? (i := 1214) (by decide +kernel))⟩
abbrev mX5_save : zM := (yX5_save, cX5_save, 1, (some .int))
theorem vX5_save : zMeV mX5_save 0 := ⟨⟨(List.mem_of_getElem? (i := 1509) (by decide +kernel)), (List.mem_of_getElem? (i := 25) (by decide +kernel)), ⟨by decide +kernel, by decide +kernel⟩, by decide +kernel, by decide⟩, (List.mem_of_getElem? (i := 1507) (by decide +kernel)), (List.mem_of_getElem? (i := 1508) (by decide +kernel))⟩
abbrev mX5_restore : zM := (yX5_restore, cX5_restore, 1, (some .int))
theorem vX5_restore : zMeV mX5_restore 0 := ⟨⟨(List.mem_of_getElem? (i := 1227) (by decide +kernel)), (List.mem_of_getElem? (i := 25) (by decide +kernel)), ⟨by decide +kernel, by decide +kernel⟩, by decide +kernel, by decide⟩, (List.mem_of_getElem? (i := 1225) (by decide +kernel)), (List.mem_of_getElem? (i := 1226) (by decide +kernel))⟩
abbrev mX5_needListener : zM := (yX5_needListener, cX5_needListener, 2, none)
theorem vX5_needListener : zMeV mX5_needListener 1 := ⟨⟨(List.mem_of_getElem? (i := 1294) (by decide +kernel)), (List.mem_of_getElem? (i := 25) (by decide +kernel)), ⟨by decide +kernel, by decide +kernel⟩, by decide +kernel, by decide⟩, (List.mem_of_getElem? (i := 1293) (by decide +kernel)), (List.mem_of_getElem? (i := 20) (by decide +kernel))⟩
abbrev mX5_needRumour : zM := (yX5_needRumour, cX5_needRumour, 2, none)
theorem vX5_needRumour : zMeV mX5_needRumour 1 := ⟨⟨(List.mem_of_getElem? (i := 796) (by decide +kernel)), (List.mem_of_getElem? (i := 25) (by decide +kernel)), ⟨by decide +kernel, by decide +kernel⟩, by decide +kernel, by decide⟩, (List.mem_of_getElem? (i := 795) (by decide +kernel)), (List.mem_of_getElem? (i := 12) (by decide +kernel))⟩
abbrev mX5_needHive : zM := (yX5_needHive, cX5_needHive, 1, none)
theorem vX5_needHive : zMeS mX5_needHive 1 := ⟨⟨(List.mem_of_getElem? (i := 1088) (by decide +kernel)), (List.mem_of_getElem? (i := 25) (by decide +kernel)), ⟨by decide +kernel, by decide +kernel⟩, by decide +kernel, by decide⟩, (List.mem_of_getElem? (i := 1087) (by decide +kernel))⟩
abbrev mX5_found : zM := (yX5_found, cX5_found, 1, (some .int))
theorem vX5_found : zMeS mX5_found 1 := ⟨⟨(List.mem_of_getElem? (i := 743) (by decide +kernel)), (List.mem_of_getElem? (i := 25) (by decide +kernel)), ⟨by decide +kernel, by decide +kernel⟩, by decide +kernel, by decide⟩, (List.mem_of_getElem? (i := 742) (by decide +kernel))⟩
abbrev mX5_isHive : zM := (yX5_isHive, cX5_isHive, 1, (some .boolean))
theorem vX5_isHive : zMeS mX5_isHive 1 := ⟨⟨(List.mem_of_getElem? (i := 415) (by decide +kernel)), (List.mem_of_getElem? (i := 25) (by decide +kernel)), ⟨by decide +kernel, by decide +kernel⟩, by decide +kernel, by decide⟩, (List.mem_of_getElem? (i := 414) (by decide +kernel))⟩
abbrev mX5_isLevel : zM := (yX5_isLevel, cX5_isLevel, 1, (some .boolean))
theorem vX5_isLevel : zMeS mX5_isLevel 1 := ⟨⟨(List.mem_of_getElem? (i := 418) (by decide +kernel)), (List.mem_of_getElem? (i := 25) (by decide +kernel)), ⟨by decide +kernel, by decide +kernel⟩, by decide +kernel, by decide⟩, (List.mem_of_getElem? (i := 417) (by decide +kernel))⟩
abbrev mX5_contains : zM := (yX5_contains, cX5_contains, 2, (some .boolean))
theorem vX5_contains : zMeS mX5_contains 2 := ⟨⟨(List.mem_of_getElem? (i := 308) (by decide +kernel)), (List.mem_of_getElem? (i := 25) (by decide +kernel)), ⟨by decide +kernel, by decide +kernel⟩, by decide +kernel, by decide⟩, (List.mem_of_getElem? (i := 307) (by decide +kernel))⟩
abbrev mX5_change : zM := (yX5_change, cX5_change, 4, (some .int))
theorem vX5_change : zMeV mX5_change 3 := ⟨⟨(List.mem_of_getElem? (i := 404) (by decide +kernel)), (List.mem_of_getElem? (i := 25) (by decide +kernel)), ⟨by decide +kernel, by decide +kernel⟩, by decide +kernel, by decide⟩, (List.mem_of_getElem? (i := 403) (by decide +kernel)), (List.mem_of_getElem? (i := 5) (by decide +kernel))⟩
abbrev mX5_refuse : zM := (yX5_refuse, cX5_refuse, 1, none)
theorem vX5_refuse : zMeS mX5_refuse 1 := ⟨⟨(List.mem_of_getElem? (i := 459) (by decide +kernel)), (List.mem_of_getElem? (i := 25) (by decide +kernel)), ⟨by decide +kernel, by decide +kernel⟩, by decide +kernel, by decide⟩, (List.mem_of_getElem? (i := 458) (by decide +kernel))⟩
abbrev mX5_refusalOf : zM := (yX5_refusalOf, cX5_refusalOf, 4, (some .int))
theorem vX5_refusalOf : zMeV mX5_refusalOf 3 := ⟨⟨(List.mem_of_getElem? (i := 408) (by decide +kernel)), (List.mem_of_getElem? (i := 25) (by decide +kernel)), ⟨by decide +kernel, by decide +kernel⟩, by decide +kernel, by decide⟩, (List.mem_of_getElem? (i := 407) (by decide +kernel)), (List.mem_of_getElem? (i := 6) (by decide +kernel))⟩
abbrev mX5_perform : zM := (yX5_perform, cX5_perform, 4, (some .int))
theorem vX5_perform : zMeV mX5_perform 3 := ⟨⟨(List.mem_of_getElem? (i := 604) (by decide +kernel)), (List.mem_of_getElem? (i := 25) (by decide +kernel)), ⟨by decide +kernel, by decide +kernel⟩, by decide +kernel, by decide⟩, (List.mem_of_getElem? (i := 603) (by decide +kernel)), (List.mem_of_getElem? (i := 8) (by decide +kernel))⟩
abbrev mX5_runCommands : zM := (yX5_runCommands, cX5_runCommands, 5, (some .int))
theorem vX5_runCommands : zMeV mX5_runCommands 0 := ⟨⟨(List.mem_of_getElem? (i := 1192) (by decide +kernel)), (List.mem_of_getElem? (i := 25) (by decide +kernel)), ⟨by decide +kernel, by decide +kernel⟩, by decide +kernel, by decide⟩, (List.mem_of_getElem? (i := 1191) (by decide +kernel)), (List.mem_of_getElem? (i := 19) (by decide +kernel))⟩
abbrev mX5_foreseenHearing : zM := (yX5_foreseenHearing, cX5_foreseenHearing, 4, (some .int))
theorem vX5_foreseenHearing : zMeV mX5_foreseenHearing 2 := ⟨⟨(List.mem_of_getElem? (i := 1531) (by decide +kernel)), (List.mem_of_getElem? (i := 25) (by decide +kernel)), ⟨by decide +kernel, by decide +kernel⟩, by decide +kernel, by decide⟩, (List.mem_of_getElem? (i := 1530) (by decide +kernel)), (List.mem_of_getElem? (i := 23) (by decide +kernel))⟩
theorem kX5_9 : Cond.methodLink RX5 9 yX3_init ∈ lw_tbl := (List.mem_of_getElem? (i := 64) (by decide +kernel))
theorem lX5_9 : zLk RX5 9 yX3_init := .inl kX5_9
theorem lX3_11 : zLk RX3 11 yX1_init := .inr ⟨"RumourHives", (List.mem_of_getElem? (i := 70) (by decide +kernel))⟩
theorem lX3_44 : zLk RX3 44 yX2_init := .inr ⟨"RumourHives", (List.mem_of_getElem? (i := 99) (by decide +kernel))⟩
theorem kX5_24 : Cond.methodLink RX5 24 yX0_init ∈ lw_tbl := (List.mem_of_getElem? (i := 168) (by decide +kernel))
theorem lX5_24 : zLk RX5 24 yX0_init := .inl kX5_24
theorem kX0_24 : Cond.methodLink RX0 24 yX3_init ∈ lw_tbl := (List.mem_of_getElem? (i := 174) (by decide +kernel))
theorem lX0_24 : zLk RX0 24 yX3_init := .inl kX0_24
theorem lX5_31 : zLk RX5 31 yX2_init := .inr ⟨"RumourHives", (List.mem_of_getElem? (i := 187) (by decide +kernel))⟩
theorem lX5_38 : zLk RX5 38 yX4_init := .inr ⟨"RumourHives", (List.mem_of_getElem? (i := 190) (by decide +kernel))⟩
theorem kX5_45 : Cond.methodLink RX5 45 yJ4_init_da8c8 ∈ lw_tbl := (List.mem_of_getElem? (i := 236) (by decide +kernel))
theorem lX5_45 : zLk RX5 45 yJ4_init_da8c8 := .inl kX5_45
theorem kX5_107 : Cond.methodLink RX5 107 yX1_piecesBySearch ∈ lw_tbl := (List.mem_of_getElem? (i := 302) (by decide +kernel))
theorem lX5_107 : zLk RX5 107 yX1_piecesBySearch := .inl kX5_107
theorem lX1_34 : zLk RX1 34 yX5_contains := .inr ⟨"RumourHives", (List.mem_of_getElem? (i := 306) (by decide +kernel))⟩
theorem kX1_38 : Cond.methodLink RX1 38 yX1_pieceOf ∈ lw_tbl := (List.mem_of_getElem? (i := 309) (by decide +kernel))
theorem lX1_38 : zLk RX1 38 yX1_pieceOf := .inl kX1_38
theorem kX1_42 : Cond.methodLink RX1 42 yX1_around ∈ lw_tbl := (List.mem_of_getElem? (i := 313) (by decide +kernel))
theorem lX1_42 : zLk RX1 42 yX1_around := .inl kX1_42
theorem kX5_111 : Cond.methodLink RX5 111 yX1_piecesByUnion ∈ lw_tbl := (List.mem_of_getElem? (i := 321) (by decide +kernel))
theorem lX5_111 : zLk RX5 111 yX1_piecesByUnion := .inl kX5_111
theorem kX1_45 : Cond.methodLink RX1 45 yX1_joined ∈ lw_tbl := (List.mem_of_getElem? (i := 325) (by decide +kernel))
theorem lX1_45 : zLk RX1 45 yX1_joined := .inl kX1_45
theorem kX1_48 : Cond.methodLink RX1 48 yX1_unite ∈ lw_tbl := (List.mem_of_getElem? (i := 329) (by decide +kernel))
theorem lX1_48 : zLk RX1 48 yX1_unite := .inl kX1_48
theorem kX1_51 : Cond.methodLink RX1 51 yX1_rootOf ∈ lw_tbl := (List.mem_of_getElem? (i := 333) (by decide +kernel))
theorem lX1_51 : zLk RX1 51 yX1_rootOf := .inl kX1_51
theorem kX5_221 : Cond.methodLink RX5 221 yX3_distancesAgree ∈ lw_tbl := (List.mem_of_getElem? (i := 337) (by decide +kernel))
theorem lX5_221 : zLk RX5 221 yX3_distancesAgree := .inl kX5_221
theorem kX3_140 : Cond.methodLink RX3 140 yX1_stepsBySearch ∈ lw_tbl := (List.mem_of_getElem? (i := 341) (by decide +kernel))
theorem lX3_140 : zLk RX3 140 yX1_stepsBySearch := .inl kX3_140
theorem kX3_144 : Cond.methodLink RX3 144 yX1_stepsByRelaxing ∈ lw_tbl := (List.mem_of_getElem? (i := 345) (by decide +kernel))
theorem lX3_144 : zLk RX3 144 yX1_stepsByRelaxing := .inl kX3_144
theorem kX1_54 : Cond.methodLink RX1 54 yX1_relaxLinks ∈ lw_tbl := (List.mem_of_getElem? (i := 349) (by decide +kernel))
theorem lX1_54 : zLk RX1 54 yX1_relaxLinks := .inl kX1_54
theorem kX1_57 : Cond.methodLink RX1 57 yJ9_min_7cf53 ∈ lw_tbl := (List.mem_of_getElem? (i := 353) (by decide +kernel))
theorem lX1_57 : zLk RX1 57 yJ9_min_7cf53 := .inl kX1_57
theorem kX5_225 : Cond.methodLink RX5 225 yX3_standsAreClear ∈ lw_tbl := (List.mem_of_getElem? (i := 356) (by decide +kernel))
theorem lX5_225 : zLk RX5 225 yX3_standsAreClear := .inl kX5_225
theorem kX5_228 : Cond.methodLink RX5 228 yX3_hivesAddUp ∈ lw_tbl := (List.mem_of_getElem? (i := 360) (by decide +kernel))
theorem lX5_228 : zLk RX5 228 yX3_hivesAddUp := .inl kX5_228
theorem kX3_128 : Cond.methodLink RX3 128 yX3_membersOf ∈ lw_tbl := (List.mem_of_getElem? (i := 364) (by decide +kernel))
theorem lX3_128 : zLk RX3 128 yX3_membersOf := .inl kX3_128
theorem kX3_102 : Cond.methodLink RX3 102 yJ6_bitCount_0f7a4 ∈ lw_tbl := (List.mem_of_getElem? (i := 368) (by decide +kernel))
theorem lX3_102 : zLk RX3 102 yJ6_bitCount_0f7a4 := .inl kX3_102
theorem kX5_61 : Cond.methodLink RX5 61 yX5_change ∈ lw_tbl := (List.mem_of_getElem? (i := 401) (by decide +kernel))
theorem lX5_61 : zLk RX5 61 yX5_change := .inl kX5_61
theorem kX5_310 : Cond.methodLink RX5 310 yX5_refusalOf ∈ lw_tbl := (List.mem_of_getElem? (i := 405) (by decide +kernel))
theorem lX5_310 : zLk RX5 310 yX5_refusalOf := .inl kX5_310
theorem kX5_328 : Cond.methodLink RX5 328 yX3_refusalToAdd ∈ lw_tbl := (List.mem_of_getElem? (i := 409) (by decide +kernel))
theorem lX5_328 : zLk RX5 328 yX3_refusalToAdd := .inl kX5_328
theorem lX3_61 : zLk RX3 61 yX5_isHive := .inr ⟨"RumourHives", (List.mem_of_getElem? (i := 413) (by decide +kernel))⟩
theorem lX3_65 : zLk RX3 65 yX5_isLevel := .inr ⟨"RumourHives", (List.mem_of_getElem? (i := 416) (by decide +kernel))⟩
theorem kX5_331 : Cond.methodLink RX5 331 yX3_refusalToJoin ∈ lw_tbl := (List.mem_of_getElem? (i := 419) (by decide +kernel))
theorem lX5_331 : zLk RX5 331 yX3_refusalToJoin := .inl kX5_331
theorem kX3_68 : Cond.methodLink RX3 68 yX3_hasListener ∈ lw_tbl := (List.mem_of_getElem? (i := 423) (by decide +kernel))
theorem lX3_68 : zLk RX3 68 yX3_hasListener := .inl kX3_68
theorem kX3_71 : Cond.methodLink RX3 71 yX1_joined ∈ lw_tbl := (List.mem_of_getElem? (i := 427) (by decide +kernel))
theorem lX3_71 : zLk RX3 71 yX1_joined := .inl kX3_71
theorem kX5_334 : Cond.methodLink RX5 334 yX3_refusalToCut ∈ lw_tbl := (List.mem_of_getElem? (i := 428) (by decide +kernel))
theorem lX5_334 : zLk RX5 334 yX3_refusalToCut := .inl kX5_334
theorem kX5_337 : Cond.methodLink RX5 337 yX3_refusalToStart ∈ lw_tbl := (List.mem_of_getElem? (i := 432) (by decide +kernel))
theorem lX5_337 : zLk RX5 337 yX3_refusalToStart := .inl kX5_337
theorem kX5_340 : Cond.methodLink RX5 340 yX3_refusalToConvert ∈ lw_tbl := (List.mem_of_getElem? (i := 436) (by decide +kernel))
theorem lX5_340 : zLk RX5 340 yX3_refusalToConvert := .inl kX5_340
theorem kX3_79 : Cond.methodLink RX3 79 yX3_hasRumour ∈ lw_tbl := (List.mem_of_getElem? (i := 440) (by decide +kernel))
theorem lX3_79 : zLk RX3 79 yX3_hasRumour := .inl kX3_79
theorem lX3_85 : zLk RX3 85 yX5_contains := .inr ⟨"RumourHives", (List.mem_of_getElem? (i := 444) (by decide +kernel))⟩
theorem kX5_343 : Cond.methodLink RX5 343 yX3_refusalToSilence ∈ lw_tbl := (List.mem_of_getElem? (i := 445) (by decide +kernel))
theorem lX5_343 : zLk RX5 343 yX3_refusalToSilence := .inl kX5_343
theorem kX5_346 : Cond.methodLink RX5 346 yX3_refusalToRevive ∈ lw_tbl := (List.mem_of_getElem? (i := 449) (by decide +kernel))
theorem lX5_346 : zLk RX5 346 yX3_refusalToRevive := .inl kX5_346
theorem kX5_349 : Cond.methodLink RX5 349 yX3_refusalToMove ∈ lw_tbl := (List.mem_of_getElem? (i := 453) (by decide +kernel))
theorem lX5_349 : zLk RX5 349 yX3_refusalToMove := .inl kX5_349
theorem kX5_313 : Cond.methodLink RX5 313 yX5_refuse ∈ lw_tbl := (List.mem_of_getElem? (i := 457) (by decide +kernel))
theorem lX5_313 : zLk RX5 313 yX5_refuse := .inl kX5_313
theorem kX5_316 : Cond.methodLink RX5 316 yX0_keep ∈ lw_tbl := (List.mem_of_getElem? (i := 579) (by decide +kernel))
theorem lX5_316 : zLk RX5 316 yX0_keep := .inl kX5_316
theorem kX0_25 : Cond.methodLink RX0 25 yX3_copyFrom ∈ lw_tbl := (List.mem_of_getElem? (i := 583) (by decide +kernel))
theorem lX0_25 : zLk RX0 25 yX3_copyFrom := .inl kX0_25
theorem kX3_45 : Cond.methodLink RX3 45 yX1_copyFrom ∈ lw_tbl := (List.mem_of_getElem? (i := 587) (by decide +kernel))
theorem lX3_45 : zLk RX3 45 yX1_copyFrom := .inl kX3_45
theorem kX3_55 : Cond.methodLink RX3 55 yX2_copyFrom ∈ lw_tbl := (List.mem_of_getElem? (i := 595) (by decide +kernel))
theorem lX3_55 : zLk RX3 55 yX2_copyFrom := .inl kX3_55
theorem kX0_29 : Cond.methodLink RX0 29 yJ9_min_7cf53 ∈ lw_tbl := (List.mem_of_getElem? (i := 600) (by decide +kernel))
theorem lX0_29 : zLk RX0 29 yJ9_min_7cf53 := .inl kX0_29
theorem kX5_319 : Cond.methodLink RX5 319 yX5_perform ∈ lw_tbl := (List.mem_of_getElem? (i := 601) (by decide +kernel))
theorem lX5_319 : zLk RX5 319 yX5_perform := .inl kX5_319
theorem kX5_352 : Cond.methodLink RX5 352 yX3_add ∈ lw_tbl := (List.mem_of_getElem? (i := 605) (by decide +kernel))
theorem lX5_352 : zLk RX5 352 yX3_add := .inl kX5_352
theorem kX5_355 : Cond.methodLink RX5 355 yX1_join ∈ lw_tbl := (List.mem_of_getElem? (i := 609) (by decide +kernel))
theorem lX5_355 : zLk RX5 355 yX1_join := .inl kX5_355
theorem kX5_358 : Cond.methodLink RX5 358 yX1_cut ∈ lw_tbl := (List.mem_of_getElem? (i := 613) (by decide +kernel))
theorem lX5_358 : zLk RX5 358 yX1_cut := .inl kX5_358
theorem kX5_361 : Cond.methodLink RX5 361 yX3_begin ∈ lw_tbl := (List.mem_of_getElem? (i := 617) (by decide +kernel))
theorem lX5_361 : zLk RX5 361 yX3_begin := .inl kX5_361
theorem kX3_75 : Cond.methodLink RX3 75 yX2_comeUp ∈ lw_tbl := (List.mem_of_getElem? (i := 621) (by decide +kernel))
theorem lX3_75 : zLk RX3 75 yX2_comeUp := .inl kX3_75
theorem kX5_364 : Cond.methodLink RX5 364 yX3_convert ∈ lw_tbl := (List.mem_of_getElem? (i := 625) (by decide +kernel))
theorem lX5_364 : zLk RX5 364 yX3_convert := .inl kX5_364
theorem kX5_367 : Cond.methodLink RX5 367 yX2_silence ∈ lw_tbl := (List.mem_of_getElem? (i := 629) (by decide +kernel))
theorem lX5_367 : zLk RX5 367 yX2_silence := .inl kX5_367
theorem kX2_38 : Cond.methodLink RX2 38 yJ6_bitCount_0f7a4 ∈ lw_tbl := (List.mem_of_getElem? (i := 633) (by decide +kernel))
theorem lX2_38 : zLk RX2 38 yJ6_bitCount_0f7a4 := .inl kX2_38
theorem kX5_370 : Cond.methodLink RX5 370 yX2_revive ∈ lw_tbl := (List.mem_of_getElem? (i := 634) (by decide +kernel))
theorem lX5_370 : zLk RX5 370 yX2_revive := .inl kX5_370
theorem kX5_373 : Cond.methodLink RX5 373 yX3_move ∈ lw_tbl := (List.mem_of_getElem? (i := 638) (by decide +kernel))
theorem lX5_373 : zLk RX5 373 yX3_move := .inl kX5_373
theorem kX5_376 : Cond.methodLink RX5 376 yX3_passRounds ∈ lw_tbl := (List.mem_of_getElem? (i := 642) (by decide +kernel))
theorem lX5_376 : zLk RX5 376 yX3_passRounds := .inl kX5_376
theorem kX3_98 : Cond.methodLink RX3 98 yX2_aware ∈ lw_tbl := (List.mem_of_getElem? (i := 646) (by decide +kernel))
theorem lX3_98 : zLk RX3 98 yX2_aware := .inl kX3_98
theorem kX3_108 : Cond.methodLink RX3 108 yX3_spreadOnce ∈ lw_tbl := (List.mem_of_getElem? (i := 650) (by decide +kernel))
theorem lX3_108 : zLk RX3 108 yX3_spreadOnce := .inl kX3_108
theorem kX3_112 : Cond.methodLink RX3 112 yX3_hears ∈ lw_tbl := (List.mem_of_getElem? (i := 654) (by decide +kernel))
theorem lX3_112 : zLk RX3 112 yX3_hears := .inl kX3_112
theorem kX3_119 : Cond.methodLink RX3 119 yX3_believes ∈ lw_tbl := (List.mem_of_getElem? (i := 658) (by decide +kernel))
theorem lX3_119 : zLk RX3 119 yX3_believes := .inl kX3_119
theorem kX3_122 : Cond.methodLink RX3 122 yX2_weaken ∈ lw_tbl := (List.mem_of_getElem? (i := 662) (by decide +kernel))
theorem lX3_122 : zLk RX3 122 yX2_weaken := .inl kX3_122
theorem kX2_44 : Cond.methodLink RX2 44 yJ9_max_7cf53 ∈ lw_tbl := (List.mem_of_getElem? (i := 666) (by decide +kernel))
theorem lX2_44 : zLk RX2 44 yJ9_max_7cf53 := .inl kX2_44
theorem kX5_195 : Cond.methodLink RX5 195 yX3_rumourAtRank ∈ lw_tbl := (List.mem_of_getElem? (i := 733) (by decide +kernel))
theorem lX5_195 : zLk RX5 195 yX3_rumourAtRank := .inl kX5_195
theorem kX3_131 : Cond.methodLink RX3 131 yX3_spreadsAhead ∈ lw_tbl := (List.mem_of_getElem? (i := 737) (by decide +kernel))
theorem lX3_131 : zLk RX3 131 yX3_spreadsAhead := .inl kX3_131
theorem kX5_164 : Cond.methodLink RX5 164 yX5_found ∈ lw_tbl := (List.mem_of_getElem? (i := 741) (by decide +kernel))
theorem lX5_164 : zLk RX5 164 yX5_found := .inl kX5_164
theorem kX5_215 : Cond.methodLink RX5 215 yX3_sumOfDoubts ∈ lw_tbl := (List.mem_of_getElem? (i := 768) (by decide +kernel))
theorem lX5_215 : zLk RX5 215 yX3_sumOfDoubts := .inl kX5_215
theorem kX5_218 : Cond.methodLink RX5 218 yX3_gossips ∈ lw_tbl := (List.mem_of_getElem? (i := 780) (by decide +kernel))
theorem lX5_218 : zLk RX5 218 yX3_gossips := .inl kX5_218
theorem kX5_92 : Cond.methodLink RX5 92 yJ6_bitCount_0f7a4 ∈ lw_tbl := (List.mem_of_getElem? (i := 784) (by decide +kernel))
theorem lX5_92 : zLk RX5 92 yJ6_bitCount_0f7a4 := .inl kX5_92
theorem kX5_117 : Cond.methodLink RX5 117 yX5_needRumour ∈ lw_tbl := (List.mem_of_getElem? (i := 793) (by decide +kernel))
theorem lX5_117 : zLk RX5 117 yX5_needRumour := .inl kX5_117
theorem kX5_298 : Cond.methodLink RX5 298 yX3_hasRumour ∈ lw_tbl := (List.mem_of_getElem? (i := 797) (by decide +kernel))
theorem lX5_298 : zLk RX5 298 yX3_hasRumour := .inl kX5_298
theorem kX5_231 : Cond.methodLink RX5 231 yJ4_setLength_d00df ∈ lw_tbl := (List.mem_of_getElem? (i := 799) (by decide +kernel))
theorem lX5_231 : zLk RX5 231 yJ4_setLength_d00df := .inl kX5_231
theorem kX5_234 : Cond.methodLink RX5 234 yJ4_append_cf468 ∈ lw_tbl := (List.mem_of_getElem? (i := 1050) (by decide +kernel))
theorem lX5_234 : zLk RX5 234 yJ4_append_cf468 := .inl kX5_234
theorem kX5_238 : Cond.methodLink RX5 238 yJ4_append_bf812 ∈ lw_tbl := (List.mem_of_getElem? (i := 1072) (by decide +kernel))
theorem lX5_238 : zLk RX5 238 yJ4_append_bf812 := .inl kX5_238
theorem kX5_241 : Cond.methodLink RX5 241 yX2_signOf ∈ lw_tbl := (List.mem_of_getElem? (i := 1073) (by decide +kernel))
theorem lX5_241 : zLk RX5 241 yX2_signOf := .inl kX5_241
theorem lX2_50 : zLk RX2 50 yX5_contains := .inr ⟨"RumourHives", (List.mem_of_getElem? (i := 1077) (by decide +kernel))⟩
theorem kX5_245 : Cond.methodLink RX5 245 yJ4_length_8abf5 ∈ lw_tbl := (List.mem_of_getElem? (i := 1078) (by decide +kernel))
theorem lX5_245 : zLk RX5 245 yJ4_length_8abf5 := .inl kX5_245
theorem kX5_101 : Cond.methodLink RX5 101 yX5_needHive ∈ lw_tbl := (List.mem_of_getElem? (i := 1086) (by decide +kernel))
theorem lX5_101 : zLk RX5 101 yX5_needHive := .inl kX5_101
theorem kX5_303 : Cond.methodLink RX5 303 yX5_isHive ∈ lw_tbl := (List.mem_of_getElem? (i := 1089) (by decide +kernel))
theorem lX5_303 : zLk RX5 303 yX5_isHive := .inl kX5_303
theorem kX5_104 : Cond.methodLink RX5 104 yX3_membersOf ∈ lw_tbl := (List.mem_of_getElem? (i := 1091) (by decide +kernel))
theorem lX5_104 : zLk RX5 104 yX3_membersOf := .inl kX5_104
theorem kX5_136 : Cond.methodLink RX5 136 yX5_contains ∈ lw_tbl := (List.mem_of_getElem? (i := 1092) (by decide +kernel))
theorem lX5_136 : zLk RX5 136 yX5_contains := .inl kX5_136
theorem kX5_253 : Cond.methodLink RX5 253 yJ4_charAt_5068e ∈ lw_tbl := (List.mem_of_getElem? (i := 1101) (by decide +kernel))
theorem lX5_253 : zLk RX5 253 yJ4_charAt_5068e := .inl kX5_253
theorem kX5_262 : Cond.methodLink RX5 262 yX4_put ∈ lw_tbl := (List.mem_of_getElem? (i := 1120) (by decide +kernel))
theorem lX5_262 : zLk RX5 262 yX4_put := .inl kX5_262
theorem kX5_266 : Cond.methodLink RX5 266 yX4_readAll ∈ lw_tbl := (List.mem_of_getElem? (i := 1131) (by decide +kernel))
theorem lX5_266 : zLk RX5 266 yX4_readAll := .inl kX5_266
theorem kX4_48 : Cond.methodLink RX4 48 yX4_furthestKind ∈ lw_tbl := (List.mem_of_getElem? (i := 1135) (by decide +kernel))
theorem lX4_48 : zLk RX4 48 yX4_furthestKind := .inl kX4_48
theorem kX4_52 : Cond.methodLink RX4 52 yX4_match ∈ lw_tbl := (List.mem_of_getElem? (i := 1139) (by decide +kernel))
theorem lX4_52 : zLk RX4 52 yX4_match := .inl kX4_52
theorem kX4_79 : Cond.methodLink RX4 79 yX4_formOf ∈ lw_tbl := (List.mem_of_getElem? (i := 1143) (by decide +kernel))
theorem lX4_79 : zLk RX4 79 yX4_formOf := .inl kX4_79
theorem kX4_83 : Cond.methodLink RX4 83 yJ0_length_8abf5 ∈ lw_tbl := (List.mem_of_getElem? (i := 1156) (by decide +kernel))
theorem lX4_83 : zLk RX4 83 yJ0_length_8abf5 := .inl kX4_83
theorem kX4_88 : Cond.methodLink RX4 88 yJ0_charAt_5068e ∈ lw_tbl := (List.mem_of_getElem? (i := 1157) (by decide +kernel))
theorem lX4_88 : zLk RX4 88 yJ0_charAt_5068e := .inl kX4_88
theorem kX4_92 : Cond.methodLink RX4 92 yX4_takes ∈ lw_tbl := (List.mem_of_getElem? (i := 1172) (by decide +kernel))
theorem lX4_92 : zLk RX4 92 yX4_takes := .inl kX4_92
theorem kX4_96 : Cond.methodLink RX4 96 yX4_takesNumber ∈ lw_tbl := (List.mem_of_getElem? (i := 1176) (by decide +kernel))
theorem lX4_96 : zLk RX4 96 yX4_takesNumber := .inl kX4_96
theorem kX4_100 : Cond.methodLink RX4 100 yX4_digitFollows ∈ lw_tbl := (List.mem_of_getElem? (i := 1180) (by decide +kernel))
theorem lX4_100 : zLk RX4 100 yX4_digitFollows := .inl kX4_100
theorem kX4_56 : Cond.methodLink RX4 56 yX4_keepCommand ∈ lw_tbl := (List.mem_of_getElem? (i := 1184) (by decide +kernel))
theorem lX4_56 : zLk RX4 56 yX4_keepCommand := .inl kX4_56
theorem kX5_271 : Cond.methodLink RX5 271 yX5_runCommands ∈ lw_tbl := (List.mem_of_getElem? (i := 1189) (by decide +kernel))
theorem lX5_271 : zLk RX5 271 yX5_runCommands := .inl kX5_271
theorem kX5_288 : Cond.methodLink RX5 288 yX3_copyFrom ∈ lw_tbl := (List.mem_of_getElem? (i := 1193) (by decide +kernel))
theorem lX5_288 : zLk RX5 288 yX3_copyFrom := .inl kX5_288
theorem kX5_284 : Cond.methodLink RX5 284 yX0_takeBack ∈ lw_tbl := (List.mem_of_getElem? (i := 1217) (by decide +kernel))
theorem lX5_284 : zLk RX5 284 yX0_takeBack := .inl kX5_284
theorem kX5_74 : Cond.methodLink RX5 74 yX5_needListener ∈ lw_tbl := (List.mem_of_getElem? (i := 1291) (by decide +kernel))
theorem lX5_74 : zLk RX5 74 yX5_needListener := .inl kX5_74
theorem kX5_292 : Cond.methodLink RX5 292 yX3_hasListener ∈ lw_tbl := (List.mem_of_getElem? (i := 1295) (by decide +kernel))
theorem lX5_292 : zLk RX5 292 yX3_hasListener := .inl kX5_292
theorem kX5_142 : Cond.methodLink RX5 142 yX2_aware ∈ lw_tbl := (List.mem_of_getElem? (i := 1297) (by decide +kernel))
theorem lX5_142 : zLk RX5 142 yX2_aware := .inl kX5_142
theorem kX5_85 : Cond.methodLink RX5 85 yX1_joined ∈ lw_tbl := (List.mem_of_getElem? (i := 1313) (by decide +kernel))
theorem lX5_85 : zLk RX5 85 yX1_joined := .inl kX5_85
theorem kX5_198 : Cond.methodLink RX5 198 yX3_listenerAtRank ∈ lw_tbl := (List.mem_of_getElem? (i := 1364) (by decide +kernel))
theorem lX5_198 : zLk RX5 198 yX3_listenerAtRank := .inl kX5_198
theorem kX3_134 : Cond.methodLink RX3 134 yX3_gossipsAhead ∈ lw_tbl := (List.mem_of_getElem? (i := 1368) (by decide +kernel))
theorem lX3_134 : zLk RX3 134 yX3_gossipsAhead := .inl kX3_134
theorem kX3_137 : Cond.methodLink RX3 137 yX3_spreadBy ∈ lw_tbl := (List.mem_of_getElem? (i := 1372) (by decide +kernel))
theorem lX3_137 : zLk RX3 137 yX3_spreadBy := .inl kX3_137
theorem kX5_157 : Cond.methodLink RX5 157 yX3_hiveWithMost ∈ lw_tbl := (List.mem_of_getElem? (i := 1469) (by decide +kernel))
theorem lX5_157 : zLk RX5 157 yX3_hiveWithMost := .inl kX5_157
theorem kX5_170 : Cond.methodLink RX5 170 yX3_believersToCome ∈ lw_tbl := (List.mem_of_getElem? (i := 1480) (by decide +kernel))
theorem lX5_170 : zLk RX5 170 yX3_believersToCome := .inl kX5_170
theorem kX5_160 : Cond.methodLink RX5 160 yX1_stepsBySearch ∈ lw_tbl := (List.mem_of_getElem? (i := 1494) (by decide +kernel))
theorem lX5_160 : zLk RX5 160 yX1_stepsBySearch := .inl kX5_160
theorem kX5_167 : Cond.methodLink RX5 167 yX1_stepsByRelaxing ∈ lw_tbl := (List.mem_of_getElem? (i := 1502) (by decide +kernel))
theorem lX5_167 : zLk RX5 167 yX1_stepsByRelaxing := .inl kX5_167
theorem kX5_188 : Cond.methodLink RX5 188 yX2_copyFrom ∈ lw_tbl := (List.mem_of_getElem? (i := 1518) (by decide +kernel))
theorem lX5_188 : zLk RX5 188 yX2_copyFrom := .inl kX5_188
theorem kX5_192 : Cond.methodLink RX5 192 yX3_spreadOnce ∈ lw_tbl := (List.mem_of_getElem? (i := 1519) (by decide +kernel))
theorem lX5_192 : zLk RX5 192 yX3_spreadOnce := .inl kX5_192
theorem kX5_179 : Cond.methodLink RX5 179 yX5_foreseenHearing ∈ lw_tbl := (List.mem_of_getElem? (i := 1528) (by decide +kernel))
theorem lX5_179 : zLk RX5 179 yX5_foreseenHearing := .inl kX5_179
theorem fX1_9 : zFld RX1 9 5 0 := ⟨zck5, by decide, .inl (List.mem_of_getElem? (i := 74) (by decide +kernel))⟩
theorem fX3_58 : zFld RX3 58 5 0 := ⟨zck5, by decide, .inr ⟨"RumourHives", (List.mem_of_getElem? (i := 75) (by decide +kernel))⟩⟩
theorem fX5_69 : zFld RX5 69 5 0 := ⟨zck5, by decide, .inr ⟨"RumourHives", (List.mem_of_getElem? (i := 76) (by decide +kernel))⟩⟩
theorem fX1_15 : zFld RX1 15 5 1 := ⟨zck5, by decide, .inl (List.mem_of_getElem? (i := 77) (by decide +kernel))⟩
theorem fX5_98 : zFld RX5 98 5 1 := ⟨zck5, by decide, .inr ⟨"RumourHives", (List.mem_of_getElem? (i := 78) (by decide +kernel))⟩⟩
theorem fX1_18 : zFld RX1 18 5 2 := ⟨zck5, by decide, .inl (List.mem_of_getElem? (i := 79) (by decide +kernel))⟩
theorem fX5_89 : zFld RX5 89 5 2 := ⟨zck5, by decide, .inr ⟨"RumourHives", (List.mem_of_getElem? (i := 80) (by decide +kernel))⟩⟩
theorem fX3_125 : zFld RX3 125 5 2 := ⟨zck5, by decide, .inr ⟨"RumourHives", (List.mem_of_getElem? (i := 81) (by decide +kernel))⟩⟩
theorem fX1_22 : zFld RX1 22 5 3 := ⟨zck5, by decide, .inl (List.mem_of_getElem? (i := 82) (by decide +kernel))⟩
theorem fX1_25 : zFld RX1 25 5 4 := ⟨zck5, by decide, .inl (List.mem_of_getElem? (i := 83) (by decide +kernel))⟩
theorem fX2_9 : zFld RX2 9 6 0 := ⟨zck6, by decide, .inl (List.mem_of_getElem? (i := 103) (by decide +kernel))⟩
theorem fX5_130 : zFld RX5 130 6 0 := ⟨zck6, by decide, .inr ⟨"RumourHives", (List.mem_of_getElem? (i := 104) (by decide +kernel))⟩⟩
theorem fX2_15 : zFld RX2 15 6 1 := ⟨zck6, by decide, .inl (List.mem_of_getElem? (i := 105) (by decide +kernel))⟩
theorem fX3_88 : zFld RX3 88 6 1 := ⟨zck6, by decide, .inr ⟨"RumourHives", (List.mem_of_getElem? (i := 106) (by decide +kernel))⟩⟩
theorem fX5_124 : zFld RX5 124 6 1 := ⟨zck6, by decide, .inr ⟨"RumourHives", (List.mem_of_getElem? (i := 107) (by decide +kernel))⟩⟩
theorem fX2_18 : zFld RX2 18 6 2 := ⟨zck6, by decide, .inl (List.mem_of_getElem? (i := 108) (by decide +kernel))⟩
theorem fX3_94 : zFld RX3 94 6 2 := ⟨zck6, by decide, .inr ⟨"RumourHives", (List.mem_of_getElem? (i := 109) (by decide +kernel))⟩⟩
theorem fX5_127 : zFld RX5 127 6 2 := ⟨zck6, by decide, .inr ⟨"RumourHives", (List.mem_of_getElem? (i := 110) (by decide +kernel))⟩⟩
theorem fX2_22 : zFld RX2 22 6 3 := ⟨zck6, by decide, .inl (List.mem_of_getElem? (i := 111) (by decide +kernel))⟩
theorem fX3_82 : zFld RX3 82 6 3 := ⟨zck6, by decide, .inr ⟨"RumourHives", (List.mem_of_getElem? (i := 112) (by decide +kernel))⟩⟩
theorem fX5_133 : zFld RX5 133 6 3 := ⟨zck6, by decide, .inr ⟨"RumourHives", (List.mem_of_getElem? (i := 113) (by decide +kernel))⟩⟩
theorem fX2_25 : zFld RX2 25 6 4 := ⟨zck6, by decide, .inl (List.mem_of_getElem? (i := 114) (by decide +kernel))⟩
theorem fX3_91 : zFld RX3 91 6 4 := ⟨zck6, by decide, .inr ⟨"RumourHives", (List.mem_of_getElem? (i := 115) (by decide +kernel))⟩⟩
theorem fX5_139 : zFld RX5 139 6 4 := ⟨zck6, by decide, .inr ⟨"RumourHives", (List.mem_of_getElem? (i := 116) (by decide +kernel))⟩⟩
theorem fX2_28 : zFld RX2 28 6 5 := ⟨zck6, by decide, .inl (List.mem_of_getElem? (i := 117) (by decide +kernel))⟩
theorem fX3_116 : zFld RX3 116 6 5 := ⟨zck6, by decide, .inr ⟨"RumourHives", (List.mem_of_getElem? (i := 118) (by decide +kernel))⟩⟩
theorem fX5_152 : zFld RX5 152 6 5 := ⟨zck6, by decide, .inr ⟨"RumourHives", (List.mem_of_getElem? (i := 119) (by decide +kernel))⟩⟩
theorem fX3_12 : zFld RX3 12 7 0 := ⟨zck7, by decide, .inl (List.mem_of_getElem? (i := 133) (by decide +kernel))⟩
theorem fX5_65 : zFld RX5 65 7 0 := ⟨zck7, by decide, .inr ⟨"RumourHives", (List.mem_of_getElem? (i := 134) (by decide +kernel))⟩⟩
theorem fX3_18 : zFld RX3 18 7 1 := ⟨zck7, by decide, .inl (List.mem_of_getElem? (i := 135) (by decide +kernel))⟩
theorem fX5_78 : zFld RX5 78 7 1 := ⟨zck7, by decide, .inr ⟨"RumourHives", (List.mem_of_getElem? (i := 136) (by decide +kernel))⟩⟩
theorem fX3_22 : zFld RX3 22 7 2 := ⟨zck7, by decide, .inl (List.mem_of_getElem? (i := 137) (by decide +kernel))⟩
theorem fX5_82 : zFld RX5 82 7 2 := ⟨zck7, by decide, .inr ⟨"RumourHives", (List.mem_of_getElem? (i := 138) (by decide +kernel))⟩⟩
theorem fX3_27 : zFld RX3 27 7 3 := ⟨zck7, by decide, .inl (List.mem_of_getElem? (i := 139) (by decide +kernel))⟩
theorem fX5_120 : zFld RX5 120 7 3 := ⟨zck7, by decide, .inr ⟨"RumourHives", (List.mem_of_getElem? (i := 140) (by decide +kernel))⟩⟩
theorem fX3_31 : zFld RX3 31 7 4 := ⟨zck7, by decide, .inl (List.mem_of_getElem? (i := 141) (by decide +kernel))⟩
theorem fX5_114 : zFld RX5 114 7 4 := ⟨zck7, by decide, .inr ⟨"RumourHives", (List.mem_of_getElem? (i := 142) (by decide +kernel))⟩⟩
theorem fX3_35 : zFld RX3 35 7 5 := ⟨zck7, by decide, .inl (List.mem_of_getElem? (i := 143) (by decide +kernel))⟩
theorem fX5_201 : zFld RX5 201 7 5 := ⟨zck7, by decide, .inr ⟨"RumourHives", (List.mem_of_getElem? (i := 144) (by decide +kernel))⟩⟩
theorem fX3_38 : zFld RX3 38 7 6 := ⟨zck7, by decide, .inl (List.mem_of_getElem? (i := 145) (by decide +kernel))⟩
theorem fX5_204 : zFld RX5 204 7 6 := ⟨zck7, by decide, .inr ⟨"RumourHives", (List.mem_of_getElem? (i := 146) (by decide +kernel))⟩⟩
theorem fX3_41 : zFld RX3 41 7 7 := ⟨zck7, by decide, .inl (List.mem_of_getElem? (i := 147) (by decide +kernel))⟩
theorem fX5_207 : zFld RX5 207 7 7 := ⟨zck7, by decide, .inr ⟨"RumourHives", (List.mem_of_getElem? (i := 148) (by decide +kernel))⟩⟩
theorem fX0_11 : zFld RX0 11 4 0 := ⟨zck4, by decide, .inl (List.mem_of_getElem? (i := 175) (by decide +kernel))⟩
theorem fX0_17 : zFld RX0 17 4 1 := ⟨zck4, by decide, .inl (List.mem_of_getElem? (i := 176) (by decide +kernel))⟩
theorem fX5_279 : zFld RX5 279 4 1 := ⟨zck4, by decide, .inr ⟨"RumourHives", (List.mem_of_getElem? (i := 177) (by decide +kernel))⟩⟩
theorem fX0_21 : zFld RX0 21 4 2 := ⟨zck4, by decide, .inl (List.mem_of_getElem? (i := 178) (by decide +kernel))⟩
theorem fX4_9 : zFld RX4 9 8 0 := ⟨zck8, by decide, .inl (List.mem_of_getElem? (i := 194) (by decide +kernel))⟩
theorem fX4_15 : zFld RX4 15 8 1 := ⟨zck8, by decide, .inl (List.mem_of_getElem? (i := 195) (by decide +kernel))⟩
theorem fX5_258 : zFld RX5 258 8 1 := ⟨zck8, by decide, .inr ⟨"RumourHives", (List.mem_of_getElem? (i := 196) (by decide +kernel))⟩⟩
theorem fX4_19 : zFld RX4 19 8 2 := ⟨zck8, by decide, .inl (List.mem_of_getElem? (i := 197) (by decide +kernel))⟩
theorem fX5_379 : zFld RX5 379 8 2 := ⟨zck8, by decide, .inr ⟨"RumourHives", (List.mem_of_getElem? (i := 198) (by decide +kernel))⟩⟩
theorem fX4_23 : zFld RX4 23 8 3 := ⟨zck8, by decide, .inl (List.mem_of_getElem? (i := 199) (by decide +kernel))⟩
theorem fX5_382 : zFld RX5 382 8 3 := ⟨zck8, by decide, .inr ⟨"RumourHives", (List.mem_of_getElem? (i := 200) (by decide +kernel))⟩⟩
theorem fX4_26 : zFld RX4 26 8 4 := ⟨zck8, by decide, .inl (List.mem_of_getElem? (i := 201) (by decide +kernel))⟩
theorem fX5_385 : zFld RX5 385 8 4 := ⟨zck8, by decide, .inr ⟨"RumourHives", (List.mem_of_getElem? (i := 202) (by decide +kernel))⟩⟩
theorem fX4_29 : zFld RX4 29 8 5 := ⟨zck8, by decide, .inl (List.mem_of_getElem? (i := 203) (by decide +kernel))⟩
theorem fX5_276 : zFld RX5 276 8 5 := ⟨zck8, by decide, .inr ⟨"RumourHives", (List.mem_of_getElem? (i := 204) (by decide +kernel))⟩⟩
theorem fX4_32 : zFld RX4 32 8 6 := ⟨zck8, by decide, .inl (List.mem_of_getElem? (i := 205) (by decide +kernel))⟩
theorem fX4_35 : zFld RX4 35 8 7 := ⟨zck8, by decide, .inl (List.mem_of_getElem? (i := 206) (by decide +kernel))⟩
theorem fX4_39 : zFld RX4 39 8 8 := ⟨zck8, by decide, .inl (List.mem_of_getElem? (i := 207) (by decide +kernel))⟩
theorem fX4_42 : zFld RX4 42 8 9 := ⟨zck8, by decide, .inl (List.mem_of_getElem? (i := 208) (by decide +kernel))⟩
theorem fX4_45 : zFld RX4 45 8 10 := ⟨zck8, by decide, .inl (List.mem_of_getElem? (i := 209) (by decide +kernel))⟩
theorem fX5_10 : zFld RX5 10 9 0 := ⟨zck9, by decide, .inl (List.mem_of_getElem? (i := 267) (by decide +kernel))⟩
theorem fX5_16 : zFld RX5 16 9 1 := ⟨zck9, by decide, .inl (List.mem_of_getElem? (i := 268) (by decide +kernel))⟩
theorem fX5_19 : zFld RX5 19 9 2 := ⟨zck9, by decide, .inl (List.mem_of_getElem? (i := 269) (by decide +kernel))⟩
theorem fX5_25 : zFld RX5 25 9 3 := ⟨zck9, by decide, .inl (List.mem_of_getElem? (i := 270) (by decide +kernel))⟩
theorem fX5_32 : zFld RX5 32 9 4 := ⟨zck9, by decide, .inl (List.mem_of_getElem? (i := 271) (by decide +kernel))⟩
theorem fX5_39 : zFld RX5 39 9 5 := ⟨zck9, by decide, .inl (List.mem_of_getElem? (i := 272) (by decide +kernel))⟩
theorem fX5_46 : zFld RX5 46 9 6 := ⟨zck9, by decide, .inl (List.mem_of_getElem? (i := 273) (by decide +kernel))⟩
theorem fX5_50 : zFld RX5 50 9 7 := ⟨zck9, by decide, .inl (List.mem_of_getElem? (i := 274) (by decide +kernel))⟩
theorem fX5_54 : zFld RX5 54 9 8 := ⟨zck9, by decide, .inl (List.mem_of_getElem? (i := 275) (by decide +kernel))⟩
theorem fX5_58 : zFld RX5 58 9 9 := ⟨zck9, by decide, .inl (List.mem_of_getElem? (i := 276) (by decide +kernel))⟩
